set_option maxRecDepth 20000 in
theorem ggX0_init_X3_init : GoodIn wsX0_init wsX3_init := goodIn_r _ [9, 10, 2, 3] (by decide +kernel) (by decide +kernel)
set_option maxRecDepth 20000 in
theorem gX0_init_X3_init_n11 : GoodIn wsX0_init (wsX3_init) := ggX0_init_X3_init
theorem dX0_init_0 : decode cX0_init 0 = .ok (.aload_n 0, 1) := by decide +kernel
theorem dX0_init_1 : decode cX0_init 1 = .ok (.invokespecial 3, 3) := by decide +kernel
theorem dX0_init_4 : decode cX0_init 4 = .ok (.aload_n 0, 1) := by decide +kernel
theorem dX0_init_5 : decode cX0_init 5 = .ok (.new 9, 3) := by decide +kernel
theorem dX0_init_8 : decode cX0_init 8 = .ok (.dup, 1) := by decide +kernel
theorem dX0_init_9 : decode cX0_init 9 = .ok (.invokespecial 11, 3) := by decide +kernel
theorem dX0_init_12 : decode cX0_init 12 = .ok (.putfield 12, 3) := by decide +kernel
theorem dX0_init_15 : decode cX0_init 15 = .ok (.return_, 1) := by decide +kernel
set_option maxRecDepth 20000 in
theorem ggX0_open_X0_beginStretch : GoodIn wsX0_open wsX0_beginStretch := goodIn_r _ [24, 25, 11, 26, 27, 28, 29, 13, 4, 17, 30, 31, 32, 23, 33, 6, 7, 34, 35, 36, 37, 38, 39, 40, 41, 42, 43, 44, 56, 57, 58, 59, 60, 61, 62, 63, 64, 65, 66, 67, 68, 69, 70, 71, 72, 73, 74, 75, 76] (by decide +kernel) (by decide +kernel)
set_option maxRecDepth 20000 in
theorem gX0_open_X0_beginStretch : GoodIn wsX0_open (wsV RX0 72 RX0 yX0_beginStretch wsX0_beginStretch) := goodIn_app (goodIn_of _ (by decide +kernel)) ggX0_open_X0_beginStretch
theorem dX0_open_0 : decode cX0_open 0 = .ok (.aload_n 0, 1) := by decide +kernel
theorem dX0_open_1 : decode cX0_open 1 = .ok (.aload_n 1, 1) := by decide +kernel
theorem dX0_open_2 : decode cX0_open 2 = .ok (.getfield 18, 3) := by decide +kernel
theorem dX0_open_5 : decode cX0_open 5 = .ok (.putfield 24, 3) := by decide +kernel
theorem dX0_open_8 : decode cX0_open 8 = .ok (.aload_n 0, 1) := by decide +kernel
theorem dX0_open_9 : decode cX0_open 9 = .ok (.aload_n 1, 1) := by decide +kernel
theorem dX0_open_10 : decode cX0_open 10 = .ok (.getfield 25, 3) := by decide +kernel
theorem dX0_open_13 : decode cX0_open 13 = .ok (.putfield 28, 3) := by decide +kernel
theorem dX0_open_16 : decode cX0_open 16 = .ok (.aload_n 0, 1) := by decide +kernel
theorem dX0_open_17 : decode cX0_open 17 = .ok (.aload_n 1, 1) := by decide +kernel
theorem dX0_open_18 : decode cX0_open 18 = .ok (.getfield 29, 3) := by decide +kernel
theorem dX0_open_21 : decode cX0_open 21 = .ok (.putfield 33, 3) := by decide +kernel
theorem dX0_open_24 : decode cX0_open 24 = .ok (.aload_n 0, 1) := by decide +kernel
theorem dX0_open_25 : decode cX0_open 25 = .ok (.lconst 0, 1) := by decide +kernel
theorem dX0_open_26 : decode cX0_open 26 = .ok (.putfield 34, 3) := by decide +kernel
theorem dX0_open_29 : decode cX0_open 29 = .ok (.aload_n 0, 1) := by decide +kernel
theorem dX0_open_30 : decode cX0_open 30 = .ok (.lconst 0, 1) := by decide +kernel
theorem dX0_open_31 : decode cX0_open 31 = .ok (.putfield 37, 3) := by decide +kernel
theorem dX0_open_34 : decode cX0_open 34 = .ok (.aload_n 0, 1) := by decide +kernel
theorem dX0_open_35 : decode cX0_open 35 = .ok (.lconst 0, 1) := by decide +kernel
theorem dX0_open_36 : decode cX0_open 36 = .ok (.putfield 40, 3) := by decide +kernel
theorem dX0_open_39 : decode cX0_open 39 = .ok (.aload_n 0, 1) := by decide +kernel
theorem dX0_open_40 : decode cX0_open 40 = .ok (.aload_n 1, 1) := by decide +kernel
theorem dX0_open_41 : decode cX0_open 41 = .ok (.getfield 43, 3) := by decide +kernel
theorem dX0_open_44 : decode cX0_open 44 = .ok (.putfield 46, 3) := by decide +kernel
theorem dX0_open_47 : decode cX0_open 47 = .ok (.aload_n 0, 1) := by decide +kernel
theorem dX0_open_48 : decode cX0_open 48 = .ok (.aload_n 1, 1) := by decide +kernel
theorem dX0_open_49 : decode cX0_open 49 = .ok (.getfield 47, 3) := by decide +kernel
theorem dX0_open_52 : decode cX0_open 52 = .ok (.putfield 50, 3) := by decide +kernel
theorem dX0_open_55 : decode cX0_open 55 = .ok (.aload_n 0, 1) := by decide +kernel
theorem dX0_open_56 : decode cX0_open 56 = .ok (.iconst 0, 1) := by decide +kernel
theorem dX0_open_57 : decode cX0_open 57 = .ok (.putfield 53, 3) := by decide +kernel
theorem dX0_open_60 : decode cX0_open 60 = .ok (.aload_n 0, 1) := by decide +kernel
theorem dX0_open_61 : decode cX0_open 61 = .ok (.iconst 0, 1) := by decide +kernel
theorem dX0_open_62 : decode cX0_open 62 = .ok (.putfield 57, 3) := by decide +kernel
theorem dX0_open_65 : decode cX0_open 65 = .ok (.aload_n 0, 1) := by decide +kernel
theorem dX0_open_66 : decode cX0_open 66 = .ok (.iconst 0, 1) := by decide +kernel
theorem dX0_open_67 : decode cX0_open 67 = .ok (.putfield 60, 3) := by decide +kernel
theorem dX0_open_70 : decode cX0_open 70 = .ok (.aload_n 0, 1) := by decide +kernel
theorem dX0_open_71 : decode cX0_open 71 = .ok (.lconst 0, 1) := by decide +kernel
theorem dX0_open_72 : decode cX0_open 72 = .ok (.putfield 63, 3) := by decide +kernel
theorem dX0_open_75 : decode cX0_open 75 = .ok (.aload_n 0, 1) := by decide +kernel
theorem dX0_open_76 : decode cX0_open 76 = .ok (.lconst 0, 1) := by decide +kernel
theorem dX0_open_77 : decode cX0_open 77 = .ok (.putfield 66, 3) := by decide +kernel
theorem dX0_open_80 : decode cX0_open 80 = .ok (.aload_n 0, 1) := by decide +kernel
theorem dX0_open_81 : decode cX0_open 81 = .ok (.lconst 0, 1) := by decide +kernel
theorem dX0_open_82 : decode cX0_open 82 = .ok (.putfield 69, 3) := by decide +kernel
theorem dX0_open_85 : decode cX0_open 85 = .ok (.aload_n 0, 1) := by decide +kernel
theorem dX0_open_86 : decode cX0_open 86 = .ok (.invokevirtual 72, 3) := by decide +kernel
theorem dX0_open_89 : decode cX0_open 89 = .ok (.return_, 1) := by decide +kernel
theorem dX0_book_0 : decode cX0_book 0 = .ok (.aload_n 0, 1) := by decide +kernel
theorem dX0_book_1 : decode cX0_book 1 = .ok (.getfield 33, 3) := by decide +kernel
theorem dX0_book_4 : decode cX0_book 4 = .ok (.aload_n 0, 1) := by decide +kernel
theorem dX0_book_5 : decode cX0_book 5 = .ok (.getfield 34, 3) := by decide +kernel
theorem dX0_book_8 : decode cX0_book 8 = .ok (.lsub, 1) := by decide +kernel
theorem dX0_book_9 : decode cX0_book 9 = .ok (.lreturn, 1) := by decide +kernel
set_option maxRecDepth 20000 in
theorem ggX0_bookOrNone_X0_book : GoodIn wsX0_bookOrNone wsX0_book := goodIn_r _ [7, 8, 9, 10, 11, 12, 13, 14, 15, 16, 17, 18, 19, 20, 21, 22, 23, 24] (by decide +kernel) (by decide +kernel)
set_option maxRecDepth 20000 in
theorem gX0_bookOrNone_X0_book : GoodIn wsX0_bookOrNone (wsV RX0 77 RX0 yX0_book wsX0_book) := goodIn_app (goodIn_of _ (by decide +kernel)) ggX0_bookOrNone_X0_book
theorem dX0_bookOrNone_0 : decode cX0_bookOrNone 0 = .ok (.aload_n 0, 1) := by decide +kernel
theorem dX0_bookOrNone_1 : decode cX0_bookOrNone 1 = .ok (.getfield 60, 3) := by decide +kernel
theorem dX0_bookOrNone_4 : decode cX0_bookOrNone 4 = .ok (.ifCond .eq 9, 3) := by decide +kernel
theorem dX0_bookOrNone_7 : decode cX0_bookOrNone 7 = .ok (.ldc2_w 75, 3) := by decide +kernel
theorem dX0_bookOrNone_10 : decode cX0_bookOrNone 10 = .ok (.goto 7, 3) := by decide +kernel
theorem dX0_bookOrNone_13 : decode cX0_bookOrNone 13 = .ok (.aload_n 0, 1) := by decide +kernel
theorem dX0_bookOrNone_14 : decode cX0_bookOrNone 14 = .ok (.invokevirtual 77, 3) := by decide +kernel
theorem dX0_bookOrNone_17 : decode cX0_bookOrNone 17 = .ok (.lreturn, 1) := by decide +kernel
set_option maxRecDepth 20000 in
theorem ggX0_meet_X0_isBreach : GoodIn wsX0_meet wsX0_isBreach := goodIn_r _ [7, 8, 9, 2, 10, 11, 12, 13, 14, 15, 16, 6, 17, 18, 77, 78, 79, 80, 81, 82, 83, 84, 85, 86, 87, 88, 89, 90, 91, 92, 93, 94, 95, 96] (by decide +kernel) (by decide +kernel)
set_option maxRecDepth 20000 in
theorem gX0_meet_X0_isBreach : GoodIn wsX0_meet (wsV RX0 81 RX0 yX0_isBreach wsX0_isBreach) := goodIn_app (goodIn_of _ (by decide +kernel)) ggX0_meet_X0_isBreach
set_option maxRecDepth 20000 in
theorem ggX0_meet_X0_apply : GoodIn wsX0_meet wsX0_apply := goodIn_r _ [22, 2, 18, 12, 11, 23, 10, 9, 24, 25, 26, 6, 27, 28, 13, 14, 15, 16, 17, 29, 30, 31, 32, 33, 34, 35, 36, 37, 38, 39, 40, 41, 42, 43, 44, 45, 46, 47, 48, 49, 50, 51, 8, 52, 53, 54, 55, 92, 93, 94, 95, 96, 77, 78, 79, 80, 81, 82, 83, 84, 85, 86, 87, 88, 89, 90, 91] (by decide +kernel) (by decide +kernel)
set_option maxRecDepth 20000 in
theorem gX0_meet_X0_apply : GoodIn wsX0_meet (wsV RX0 85 RX0 yX0_apply wsX0_apply) := goodIn_app (goodIn_of _ (by decide +kernel)) ggX0_meet_X0_apply
set_option maxRecDepth 20000 in
theorem ggX0_meet_X0_beginStretch : GoodIn wsX0_meet wsX0_beginStretch := goodIn_r _ [59, 60, 11, 61, 62, 35, 63, 10, 64, 65, 14, 15, 16, 6, 17, 18, 13, 66, 67, 68, 69, 70, 71, 72, 73, 74, 75, 76, 77, 78, 79, 80, 81, 82, 83, 84, 85, 86, 87, 88, 89, 90, 91, 97, 98, 99, 100, 101, 102] (by decide +kernel) (by decide +kernel)
set_option maxRecDepth 20000 in
theorem gX0_meet_X0_beginStretch : GoodIn wsX0_meet (wsV RX0 72 RX0 yX0_beginStretch wsX0_beginStretch) := goodIn_app (goodIn_of _ (by decide +kernel)) ggX0_meet_X0_beginStretch
theorem dX0_meet_0 : decode cX0_meet 0 = .ok (.aload_n 0, 1) := by decide +kernel
theorem dX0_meet_1 : decode cX0_meet 1 = .ok (.aload_n 1, 1) := by decide +kernel
theorem dX0_meet_2 : decode cX0_meet 2 = .ok (.lload_n 2, 1) := by decide +kernel
theorem dX0_meet_3 : decode cX0_meet 3 = .ok (.invokevirtual 81, 3) := by decide +kernel
theorem dX0_meet_6 : decode cX0_meet 6 = .ok (.ifCond .eq 9, 3) := by decide +kernel
theorem dX0_meet_9 : decode cX0_meet 9 = .ok (.aload_n 0, 1) := by decide +kernel
theorem dX0_meet_10 : decode cX0_meet 10 = .ok (.iconst 1, 1) := by decide +kernel
theorem dX0_meet_11 : decode cX0_meet 11 = .ok (.putfield 60, 3) := by decide +kernel
theorem dX0_meet_14 : decode cX0_meet 14 = .ok (.return_, 1) := by decide +kernel
theorem dX0_meet_15 : decode cX0_meet 15 = .ok (.aload_n 0, 1) := by decide +kernel
theorem dX0_meet_16 : decode cX0_meet 16 = .ok (.aload_n 1, 1) := by decide +kernel
theorem dX0_meet_17 : decode cX0_meet 17 = .ok (.invokevirtual 85, 3) := by decide +kernel
theorem dX0_meet_20 : decode cX0_meet 20 = .ok (.aload_n 1, 1) := by decide +kernel
theorem dX0_meet_21 : decode cX0_meet 21 = .ok (.getfield 89, 3) := by decide +kernel
theorem dX0_meet_24 : decode cX0_meet 24 = .ok (.bipush 6, 2) := by decide +kernel
theorem dX0_meet_26 : decode cX0_meet 26 = .ok (.if_icmp .eq 16, 3) := by decide +kernel
theorem dX0_meet_29 : decode cX0_meet 29 = .ok (.aload_n 1, 1) := by decide +kernel
theorem dX0_meet_30 : decode cX0_meet 30 = .ok (.getfield 89, 3) := by decide +kernel
theorem dX0_meet_33 : decode cX0_meet 33 = .ok (.bipush 7, 2) := by decide +kernel
theorem dX0_meet_35 : decode cX0_meet 35 = .ok (.if_icmp .eq 7, 3) := by decide +kernel
theorem dX0_meet_38 : decode cX0_meet 38 = .ok (.aload_n 0, 1) := by decide +kernel
theorem dX0_meet_39 : decode cX0_meet 39 = .ok (.invokevirtual 72, 3) := by decide +kernel
theorem dX0_meet_42 : decode cX0_meet 42 = .ok (.return_, 1) := by decide +kernel
set_option maxRecDepth 20000 in
theorem ggX0_chargeMonth_X0_decliningCharge : GoodIn wsX0_chargeMonth wsX0_decliningCharge := goodIn_r _ [14, 15, 4, 16, 17, 18, 19, 20, 21, 22, 23, 24, 25, 26, 27, 13, 28, 29, 8, 30, 31, 32, 33, 54, 55, 56, 57, 58, 59, 60, 61, 62, 63, 64, 65, 66, 67, 68] (by decide +kernel) (by decide +kernel)
set_option maxRecDepth 20000 in
theorem gX0_chargeMonth_X0_decliningCharge : GoodIn wsX0_chargeMonth (wsV RX0 94 RX0 yX0_decliningCharge wsX0_decliningCharge) := goodIn_app (goodIn_of _ (by decide +kernel)) ggX0_chargeMonth_X0_decliningCharge
set_option maxRecDepth 20000 in
theorem ggX0_chargeMonth_X3_nextCharge : GoodIn wsX0_chargeMonth wsX3_nextCharge := goodIn_r _ [38, 39, 40, 41, 42, 43, 44, 37, 45, 46, 47, 48, 49, 23, 20, 24, 30, 31, 32, 33, 50, 51, 52, 53, 69, 70, 71, 72, 73, 74] (by decide +kernel) (by decide +kernel)
set_option maxRecDepth 20000 in
theorem gX0_chargeMonth_X3_nextCharge : GoodIn wsX0_chargeMonth (wsV RX0 97 RX3 yX3_nextCharge wsX3_nextCharge) := goodIn_app (goodIn_of _ (by decide +kernel)) ggX0_chargeMonth_X3_nextCharge
theorem dX0_chargeMonth_0 : decode cX0_chargeMonth 0 = .ok (.aload_n 0, 1) := by decide +kernel
theorem dX0_chargeMonth_1 : decode cX0_chargeMonth 1 = .ok (.lconst 0, 1) := by decide +kernel
theorem dX0_chargeMonth_2 : decode cX0_chargeMonth 2 = .ok (.putfield 66, 3) := by decide +kernel
theorem dX0_chargeMonth_5 : decode cX0_chargeMonth 5 = .ok (.aload_n 0, 1) := by decide +kernel
theorem dX0_chargeMonth_6 : decode cX0_chargeMonth 6 = .ok (.getfield 53, 3) := by decide +kernel
theorem dX0_chargeMonth_9 : decode cX0_chargeMonth 9 = .ok (.ifCond .ne 17, 3) := by decide +kernel
theorem dX0_chargeMonth_12 : decode cX0_chargeMonth 12 = .ok (.aload_n 0, 1) := by decide +kernel
theorem dX0_chargeMonth_13 : decode cX0_chargeMonth 13 = .ok (.getfield 57, 3) := by decide +kernel
theorem dX0_chargeMonth_16 : decode cX0_chargeMonth 16 = .ok (.ifCond .ne 10, 3) := by decide +kernel
theorem dX0_chargeMonth_19 : decode cX0_chargeMonth 19 = .ok (.aload_n 0, 1) := by decide +kernel
theorem dX0_chargeMonth_20 : decode cX0_chargeMonth 20 = .ok (.getfield 50, 3) := by decide +kernel
theorem dX0_chargeMonth_23 : decode cX0_chargeMonth 23 = .ok (.ifCond .ne 4, 3) := by decide +kernel
theorem dX0_chargeMonth_26 : decode cX0_chargeMonth 26 = .ok (.return_, 1) := by decide +kernel
theorem dX0_chargeMonth_27 : decode cX0_chargeMonth 27 = .ok (.aload_n 0, 1) := by decide +kernel
theorem dX0_chargeMonth_28 : decode cX0_chargeMonth 28 = .ok (.aload_n 0, 1) := by decide +kernel
theorem dX0_chargeMonth_29 : decode cX0_chargeMonth 29 = .ok (.getfield 24, 3) := by decide +kernel
theorem dX0_chargeMonth_32 : decode cX0_chargeMonth 32 = .ok (.iconst 1, 1) := by decide +kernel
theorem dX0_chargeMonth_33 : decode cX0_chargeMonth 33 = .ok (.if_icmp .ne 10, 3) := by decide +kernel
theorem dX0_chargeMonth_36 : decode cX0_chargeMonth 36 = .ok (.aload_n 0, 1) := by decide +kernel
theorem dX0_chargeMonth_37 : decode cX0_chargeMonth 37 = .ok (.invokevirtual 94, 3) := by decide +kernel
theorem dX0_chargeMonth_40 : decode cX0_chargeMonth 40 = .ok (.goto 15, 3) := by decide +kernel
theorem dX0_chargeMonth_43 : decode cX0_chargeMonth 43 = .ok (.aload_n 0, 1) := by decide +kernel
theorem dX0_chargeMonth_44 : decode cX0_chargeMonth 44 = .ok (.getfield 12, 3) := by decide +kernel
theorem dX0_chargeMonth_47 : decode cX0_chargeMonth 47 = .ok (.aload_n 0, 1) := by decide +kernel
theorem dX0_chargeMonth_48 : decode cX0_chargeMonth 48 = .ok (.getfield 24, 3) := by decide +kernel
theorem dX0_chargeMonth_51 : decode cX0_chargeMonth 51 = .ok (.iload_n 1, 1) := by decide +kernel
theorem dX0_chargeMonth_52 : decode cX0_chargeMonth 52 = .ok (.invokevirtual 97, 3) := by decide +kernel
theorem dX0_chargeMonth_55 : decode cX0_chargeMonth 55 = .ok (.putfield 66, 3) := by decide +kernel
theorem dX0_chargeMonth_58 : decode cX0_chargeMonth 58 = .ok (.aload_n 0, 1) := by decide +kernel
theorem dX0_chargeMonth_59 : decode cX0_chargeMonth 59 = .ok (.dup, 1) := by decide +kernel
theorem dX0_chargeMonth_60 : decode cX0_chargeMonth 60 = .ok (.getfield 50, 3) := by decide +kernel
theorem dX0_chargeMonth_63 : decode cX0_chargeMonth 63 = .ok (.iconst 1, 1) := by decide +kernel
theorem dX0_chargeMonth_64 : decode cX0_chargeMonth 64 = .ok (.isub, 1) := by decide +kernel
theorem dX0_chargeMonth_65 : decode cX0_chargeMonth 65 = .ok (.putfield 50, 3) := by decide +kernel
theorem dX0_chargeMonth_68 : decode cX0_chargeMonth 68 = .ok (.aload_n 0, 1) := by decide +kernel
theorem dX0_chargeMonth_69 : decode cX0_chargeMonth 69 = .ok (.dup, 1) := by decide +kernel
theorem dX0_chargeMonth_70 : decode cX0_chargeMonth 70 = .ok (.getfield 63, 3) := by decide +kernel
theorem dX0_chargeMonth_73 : decode cX0_chargeMonth 73 = .ok (.iload_n 1, 1) := by decide +kernel
theorem dX0_chargeMonth_74 : decode cX0_chargeMonth 74 = .ok (.i2l, 1) := by decide +kernel
theorem dX0_chargeMonth_75 : decode cX0_chargeMonth 75 = .ok (.ladd, 1) := by decide +kernel
theorem dX0_chargeMonth_76 : decode cX0_chargeMonth 76 = .ok (.putfield 63, 3) := by decide +kernel
theorem dX0_chargeMonth_79 : decode cX0_chargeMonth 79 = .ok (.aload_n 0, 1) := by decide +kernel
theorem dX0_chargeMonth_80 : decode cX0_chargeMonth 80 = .ok (.dup, 1) := by decide +kernel
theorem dX0_chargeMonth_81 : decode cX0_chargeMonth 81 = .ok (.getfield 34, 3) := by decide +kernel
theorem dX0_chargeMonth_84 : decode cX0_chargeMonth 84 = .ok (.aload_n 0, 1) := by decide +kernel
theorem dX0_chargeMonth_85 : decode cX0_chargeMonth 85 = .ok (.getfield 66, 3) := by decide +kernel
theorem dX0_chargeMonth_88 : decode cX0_chargeMonth 88 = .ok (.ladd, 1) := by decide +kernel
theorem dX0_chargeMonth_89 : decode cX0_chargeMonth 89 = .ok (.putfield 34, 3) := by decide +kernel
theorem dX0_chargeMonth_92 : decode cX0_chargeMonth 92 = .ok (.aload_n 0, 1) := by decide +kernel
theorem dX0_chargeMonth_93 : decode cX0_chargeMonth 93 = .ok (.dup, 1) := by decide +kernel
theorem dX0_chargeMonth_94 : decode cX0_chargeMonth 94 = .ok (.getfield 69, 3) := by decide +kernel
theorem dX0_chargeMonth_97 : decode cX0_chargeMonth 97 = .ok (.aload_n 0, 1) := by decide +kernel
theorem dX0_chargeMonth_98 : decode cX0_chargeMonth 98 = .ok (.getfield 66, 3) := by decide +kernel
theorem dX0_chargeMonth_101 : decode cX0_chargeMonth 101 = .ok (.ladd, 1) := by decide +kernel
theorem dX0_chargeMonth_102 : decode cX0_chargeMonth 102 = .ok (.putfield 69, 3) := by decide +kernel
theorem dX0_chargeMonth_105 : decode cX0_chargeMonth 105 = .ok (.return_, 1) := by decide +kernel
set_option maxRecDepth 20000 in
theorem ggX0_isBreach_X0_book : GoodIn wsX0_isBreach wsX0_book := goodIn_r _ [12, 13, 7, 14, 15, 16, 17, 18, 19, 20, 21, 22, 23, 24, 25, 26, 27, 28] (by decide +kernel) (by decide +kernel)
set_option maxRecDepth 20000 in
theorem gX0_isBreach_X0_book : GoodIn wsX0_isBreach (wsV RX0 77 RX0 yX0_book wsX0_book) := goodIn_app (goodIn_of _ (by decide +kernel)) ggX0_isBreach_X0_book
theorem dX0_isBreach_0 : decode cX0_isBreach 0 = .ok (.aload_n 0, 1) := by decide +kernel
theorem dX0_isBreach_1 : decode cX0_isBreach 1 = .ok (.getfield 57, 3) := by decide +kernel
theorem dX0_isBreach_4 : decode cX0_isBreach 4 = .ok (.ifCond .ne 27, 3) := by decide +kernel
theorem dX0_isBreach_7 : decode cX0_isBreach 7 = .ok (.aload_n 0, 1) := by decide +kernel
theorem dX0_isBreach_8 : decode cX0_isBreach 8 = .ok (.getfield 53, 3) := by decide +kernel
theorem dX0_isBreach_11 : decode cX0_isBreach 11 = .ok (.ifCond .eq 22, 3) := by decide +kernel
theorem dX0_isBreach_14 : decode cX0_isBreach 14 = .ok (.aload_n 1, 1) := by decide +kernel
theorem dX0_isBreach_15 : decode cX0_isBreach 15 = .ok (.getfield 89, 3) := by decide +kernel
theorem dX0_isBreach_18 : decode cX0_isBreach 18 = .ok (.bipush 7, 2) := by decide +kernel
theorem dX0_isBreach_20 : decode cX0_isBreach 20 = .ok (.if_icmp .eq 13, 3) := by decide +kernel
theorem dX0_isBreach_23 : decode cX0_isBreach 23 = .ok (.aload_n 1, 1) := by decide +kernel
theorem dX0_isBreach_24 : decode cX0_isBreach 24 = .ok (.getfield 89, 3) := by decide +kernel
theorem dX0_isBreach_27 : decode cX0_isBreach 27 = .ok (.iconst 5, 1) := by decide +kernel
theorem dX0_isBreach_28 : decode cX0_isBreach 28 = .ok (.if_icmp .eq 5, 3) := by decide +kernel
theorem dX0_isBreach_31 : decode cX0_isBreach 31 = .ok (.iconst 1, 1) := by decide +kernel
theorem dX0_isBreach_32 : decode cX0_isBreach 32 = .ok (.ireturn, 1) := by decide +kernel
theorem dX0_isBreach_33 : decode cX0_isBreach 33 = .ok (.aload_n 1, 1) := by decide +kernel
theorem dX0_isBreach_34 : decode cX0_isBreach 34 = .ok (.getfield 89, 3) := by decide +kernel
theorem dX0_isBreach_37 : decode cX0_isBreach 37 = .ok (.tableswitch 182 0 7 #[47, 77, 182, 95, 113, 182, 182, 169], 47) := by decide +kernel
theorem dX0_isBreach_84 : decode cX0_isBreach 84 = .ok (.aload_n 0, 1) := by decide +kernel
theorem dX0_isBreach_85 : decode cX0_isBreach 85 = .ok (.getfield 50, 3) := by decide +kernel
theorem dX0_isBreach_88 : decode cX0_isBreach 88 = .ok (.ifCond .eq 20, 3) := by decide +kernel
theorem dX0_isBreach_91 : decode cX0_isBreach 91 = .ok (.aload_n 0, 1) := by decide +kernel
theorem dX0_isBreach_92 : decode cX0_isBreach 92 = .ok (.getfield 46, 3) := by decide +kernel
theorem dX0_isBreach_95 : decode cX0_isBreach 95 = .ok (.aload_n 0, 1) := by decide +kernel
theorem dX0_isBreach_96 : decode cX0_isBreach 96 = .ok (.invokevirtual 77, 3) := by decide +kernel
theorem dX0_isBreach_99 : decode cX0_isBreach 99 = .ok (.aload_n 1, 1) := by decide +kernel
theorem dX0_isBreach_100 : decode cX0_isBreach 100 = .ok (.getfield 101, 3) := by decide +kernel
theorem dX0_isBreach_103 : decode cX0_isBreach 103 = .ok (.ladd, 1) := by decide +kernel
theorem dX0_isBreach_104 : decode cX0_isBreach 104 = .ok (.lcmp, 1) := by decide +kernel
theorem dX0_isBreach_105 : decode cX0_isBreach 105 = .ok (.ifCond .le 7, 3) := by decide +kernel
theorem dX0_isBreach_108 : decode cX0_isBreach 108 = .ok (.iconst 1, 1) := by decide +kernel
theorem dX0_isBreach_109 : decode cX0_isBreach 109 = .ok (.goto 4, 3) := by decide +kernel
theorem dX0_isBreach_112 : decode cX0_isBreach 112 = .ok (.iconst 0, 1) := by decide +kernel
theorem dX0_isBreach_113 : decode cX0_isBreach 113 = .ok (.ireturn, 1) := by decide +kernel
theorem dX0_isBreach_114 : decode cX0_isBreach 114 = .ok (.aload_n 1, 1) := by decide +kernel
theorem dX0_isBreach_115 : decode cX0_isBreach 115 = .ok (.getfield 101, 3) := by decide +kernel
theorem dX0_isBreach_118 : decode cX0_isBreach 118 = .ok (.aload_n 0, 1) := by decide +kernel
theorem dX0_isBreach_119 : decode cX0_isBreach 119 = .ok (.invokevirtual 77, 3) := by decide +kernel
theorem dX0_isBreach_122 : decode cX0_isBreach 122 = .ok (.lcmp, 1) := by decide +kernel
theorem dX0_isBreach_123 : decode cX0_isBreach 123 = .ok (.ifCond .le 7, 3) := by decide +kernel
theorem dX0_isBreach_126 : decode cX0_isBreach 126 = .ok (.iconst 1, 1) := by decide +kernel
theorem dX0_isBreach_127 : decode cX0_isBreach 127 = .ok (.goto 4, 3) := by decide +kernel
theorem dX0_isBreach_130 : decode cX0_isBreach 130 = .ok (.iconst 0, 1) := by decide +kernel
theorem dX0_isBreach_131 : decode cX0_isBreach 131 = .ok (.ireturn, 1) := by decide +kernel
theorem dX0_isBreach_132 : decode cX0_isBreach 132 = .ok (.aload_n 1, 1) := by decide +kernel
theorem dX0_isBreach_133 : decode cX0_isBreach 133 = .ok (.getfield 101, 3) := by decide +kernel
theorem dX0_isBreach_136 : decode cX0_isBreach 136 = .ok (.aload_n 0, 1) := by decide +kernel
theorem dX0_isBreach_137 : decode cX0_isBreach 137 = .ok (.invokevirtual 77, 3) := by decide +kernel
theorem dX0_isBreach_140 : decode cX0_isBreach 140 = .ok (.lcmp, 1) := by decide +kernel
theorem dX0_isBreach_141 : decode cX0_isBreach 141 = .ok (.ifCond .lt 7, 3) := by decide +kernel
theorem dX0_isBreach_144 : decode cX0_isBreach 144 = .ok (.iconst 1, 1) := by decide +kernel
theorem dX0_isBreach_145 : decode cX0_isBreach 145 = .ok (.goto 4, 3) := by decide +kernel
theorem dX0_isBreach_148 : decode cX0_isBreach 148 = .ok (.iconst 0, 1) := by decide +kernel
theorem dX0_isBreach_149 : decode cX0_isBreach 149 = .ok (.ireturn, 1) := by decide +kernel
theorem dX0_isBreach_150 : decode cX0_isBreach 150 = .ok (.aload_n 1, 1) := by decide +kernel
theorem dX0_isBreach_151 : decode cX0_isBreach 151 = .ok (.getfield 101, 3) := by decide +kernel
theorem dX0_isBreach_154 : decode cX0_isBreach 154 = .ok (.aload_n 0, 1) := by decide +kernel
theorem dX0_isBreach_155 : decode cX0_isBreach 155 = .ok (.invokevirtual 77, 3) := by decide +kernel
theorem dX0_isBreach_158 : decode cX0_isBreach 158 = .ok (.lcmp, 1) := by decide +kernel
theorem dX0_isBreach_159 : decode cX0_isBreach 159 = .ok (.ifCond .le 41, 3) := by decide +kernel
theorem dX0_isBreach_162 : decode cX0_isBreach 162 = .ok (.aload_n 1, 1) := by decide +kernel
theorem dX0_isBreach_163 : decode cX0_isBreach 163 = .ok (.getfield 101, 3) := by decide +kernel
theorem dX0_isBreach_166 : decode cX0_isBreach 166 = .ok (.lload_n 2, 1) := by decide +kernel
theorem dX0_isBreach_167 : decode cX0_isBreach 167 = .ok (.lcmp, 1) := by decide +kernel
theorem dX0_isBreach_168 : decode cX0_isBreach 168 = .ok (.ifCond .gt 32, 3) := by decide +kernel
theorem dX0_isBreach_171 : decode cX0_isBreach 171 = .ok (.aload_n 1, 1) := by decide +kernel
theorem dX0_isBreach_172 : decode cX0_isBreach 172 = .ok (.getfield 101, 3) := by decide +kernel
theorem dX0_isBreach_175 : decode cX0_isBreach 175 = .ok (.aload_n 0, 1) := by decide +kernel
theorem dX0_isBreach_176 : decode cX0_isBreach 176 = .ok (.invokevirtual 77, 3) := by decide +kernel
theorem dX0_isBreach_179 : decode cX0_isBreach 179 = .ok (.lsub, 1) := by decide +kernel
theorem dX0_isBreach_180 : decode cX0_isBreach 180 = .ok (.aload_n 0, 1) := by decide +kernel
theorem dX0_isBreach_181 : decode cX0_isBreach 181 = .ok (.getfield 34, 3) := by decide +kernel
theorem dX0_isBreach_184 : decode cX0_isBreach 184 = .ok (.lcmp, 1) := by decide +kernel
theorem dX0_isBreach_185 : decode cX0_isBreach 185 = .ok (.ifCond .gt 15, 3) := by decide +kernel
theorem dX0_isBreach_188 : decode cX0_isBreach 188 = .ok (.aload_n 0, 1) := by decide +kernel
theorem dX0_isBreach_189 : decode cX0_isBreach 189 = .ok (.getfield 46, 3) := by decide +kernel
theorem dX0_isBreach_192 : decode cX0_isBreach 192 = .ok (.aload_n 1, 1) := by decide +kernel
theorem dX0_isBreach_193 : decode cX0_isBreach 193 = .ok (.getfield 101, 3) := by decide +kernel
theorem dX0_isBreach_196 : decode cX0_isBreach 196 = .ok (.lcmp, 1) := by decide +kernel
theorem dX0_isBreach_197 : decode cX0_isBreach 197 = .ok (.ifCond .le 7, 3) := by decide +kernel
theorem dX0_isBreach_200 : decode cX0_isBreach 200 = .ok (.iconst 1, 1) := by decide +kernel
theorem dX0_isBreach_201 : decode cX0_isBreach 201 = .ok (.goto 4, 3) := by decide +kernel
theorem dX0_isBreach_204 : decode cX0_isBreach 204 = .ok (.iconst 0, 1) := by decide +kernel
theorem dX0_isBreach_205 : decode cX0_isBreach 205 = .ok (.ireturn, 1) := by decide +kernel
theorem dX0_isBreach_206 : decode cX0_isBreach 206 = .ok (.aload_n 0, 1) := by decide +kernel
theorem dX0_isBreach_207 : decode cX0_isBreach 207 = .ok (.getfield 53, 3) := by decide +kernel
theorem dX0_isBreach_210 : decode cX0_isBreach 210 = .ok (.ifCond .ne 7, 3) := by decide +kernel
theorem dX0_isBreach_213 : decode cX0_isBreach 213 = .ok (.iconst 1, 1) := by decide +kernel
theorem dX0_isBreach_214 : decode cX0_isBreach 214 = .ok (.goto 4, 3) := by decide +kernel
theorem dX0_isBreach_217 : decode cX0_isBreach 217 = .ok (.iconst 0, 1) := by decide +kernel
theorem dX0_isBreach_218 : decode cX0_isBreach 218 = .ok (.ireturn, 1) := by decide +kernel
theorem dX0_isBreach_219 : decode cX0_isBreach 219 = .ok (.iconst 0, 1) := by decide +kernel
theorem dX0_isBreach_220 : decode cX0_isBreach 220 = .ok (.ireturn, 1) := by decide +kernel
set_option maxRecDepth 20000 in
theorem ggX0_apply_X0_revalue : GoodIn wsX0_apply wsX0_revalue := goodIn_r _ [12, 13, 2, 14, 15, 16, 17, 11, 18, 19, 20, 21, 22, 23, 24, 25, 26, 27, 52, 53, 54, 55, 56, 57, 58, 59, 60, 61, 62, 63, 64, 65, 66] (by decide +kernel) (by decide +kernel)
set_option maxRecDepth 20000 in
theorem gX0_apply_X0_revalue : GoodIn wsX0_apply (wsV RX0 107 RX0 yX0_revalue wsX0_revalue) := goodIn_app (goodIn_of _ (by decide +kernel)) ggX0_apply_X0_revalue
set_option maxRecDepth 20000 in
theorem ggX0_apply_X0_book : GoodIn wsX0_apply wsX0_book := goodIn_r _ [18, 2, 14, 52, 53, 54, 55, 56, 57, 58, 59, 60, 61, 62, 63, 64, 65, 66] (by decide +kernel) (by decide +kernel)
set_option maxRecDepth 20000 in
theorem gX0_apply_X0_book : GoodIn wsX0_apply (wsV RX0 77 RX0 yX0_book wsX0_book) := goodIn_app (goodIn_of _ (by decide +kernel)) ggX0_apply_X0_book
set_option maxRecDepth 20000 in
theorem ggX0_apply_X0_impair : GoodIn wsX0_apply wsX0_impair := goodIn_r _ [31, 14, 19, 20, 21, 11, 22, 13, 23, 24, 25, 26, 27, 52, 53, 54, 55, 56, 57, 58, 59, 60, 61, 62, 63, 64, 65, 66] (by decide +kernel) (by decide +kernel)
set_option maxRecDepth 20000 in
theorem gX0_apply_X0_impair : GoodIn wsX0_apply (wsV RX0 111 RX0 yX0_impair wsX0_impair) := goodIn_app (goodIn_of _ (by decide +kernel)) ggX0_apply_X0_impair
set_option maxRecDepth 20000 in
theorem ggX0_apply_X0_restore : GoodIn wsX0_apply wsX0_restore := goodIn_r _ [35, 14, 27, 23, 24, 25, 26, 52, 53, 54, 55, 56, 57, 58, 59, 60, 61, 62, 63, 64, 65, 66] (by decide +kernel) (by decide +kernel)
set_option maxRecDepth 20000 in
theorem gX0_apply_X0_restore : GoodIn wsX0_apply (wsV RX0 114 RX0 yX0_restore wsX0_restore) := goodIn_app (goodIn_of _ (by decide +kernel)) ggX0_apply_X0_restore
set_option maxRecDepth 20000 in
theorem ggX0_apply_X0_sell : GoodIn wsX0_apply wsX0_sell := goodIn_r _ [39, 2, 40, 14, 13, 4, 41, 42, 43, 44, 45, 46, 52, 53, 54, 55, 56, 57, 58, 59, 60, 61, 62, 63, 64, 65, 66] (by decide +kernel) (by decide +kernel)
set_option maxRecDepth 20000 in
theorem gX0_apply_X0_sell : GoodIn wsX0_apply (wsV RX0 117 RX0 yX0_sell wsX0_sell) := goodIn_app (goodIn_of _ (by decide +kernel)) ggX0_apply_X0_sell
theorem dX0_apply_0 : decode cX0_apply 0 = .ok (.aload_n 1, 1) := by decide +kernel
theorem dX0_apply_1 : decode cX0_apply 1 = .ok (.getfield 89, 3) := by decide +kernel
theorem dX0_apply_4 : decode cX0_apply 4 = .ok (.tableswitch 129 0 5 #[40, 56, 75, 86, 102, 118], 40) := by decide +kernel
theorem dX0_apply_44 : decode cX0_apply 44 = .ok (.aload_n 0, 1) := by decide +kernel
theorem dX0_apply_45 : decode cX0_apply 45 = .ok (.dup, 1) := by decide +kernel
theorem dX0_apply_46 : decode cX0_apply 46 = .ok (.getfield 33, 3) := by decide +kernel
theorem dX0_apply_49 : decode cX0_apply 49 = .ok (.aload_n 1, 1) := by decide +kernel
theorem dX0_apply_50 : decode cX0_apply 50 = .ok (.getfield 101, 3) := by decide +kernel
theorem dX0_apply_53 : decode cX0_apply 53 = .ok (.ladd, 1) := by decide +kernel
theorem dX0_apply_54 : decode cX0_apply 54 = .ok (.putfield 33, 3) := by decide +kernel
theorem dX0_apply_57 : decode cX0_apply 57 = .ok (.goto 94, 3) := by decide +kernel
theorem dX0_apply_60 : decode cX0_apply 60 = .ok (.aload_n 0, 1) := by decide +kernel
theorem dX0_apply_61 : decode cX0_apply 61 = .ok (.aload_n 1, 1) := by decide +kernel
theorem dX0_apply_62 : decode cX0_apply 62 = .ok (.getfield 101, 3) := by decide +kernel
theorem dX0_apply_65 : decode cX0_apply 65 = .ok (.putfield 46, 3) := by decide +kernel
theorem dX0_apply_68 : decode cX0_apply 68 = .ok (.aload_n 0, 1) := by decide +kernel
theorem dX0_apply_69 : decode cX0_apply 69 = .ok (.aload_n 1, 1) := by decide +kernel
theorem dX0_apply_70 : decode cX0_apply 70 = .ok (.getfield 104, 3) := by decide +kernel
theorem dX0_apply_73 : decode cX0_apply 73 = .ok (.putfield 50, 3) := by decide +kernel
theorem dX0_apply_76 : decode cX0_apply 76 = .ok (.goto 75, 3) := by decide +kernel
theorem dX0_apply_79 : decode cX0_apply 79 = .ok (.aload_n 0, 1) := by decide +kernel
theorem dX0_apply_80 : decode cX0_apply 80 = .ok (.aload_n 1, 1) := by decide +kernel
theorem dX0_apply_81 : decode cX0_apply 81 = .ok (.getfield 101, 3) := by decide +kernel
theorem dX0_apply_84 : decode cX0_apply 84 = .ok (.invokevirtual 107, 3) := by decide +kernel
theorem dX0_apply_87 : decode cX0_apply 87 = .ok (.goto 64, 3) := by decide +kernel
theorem dX0_apply_90 : decode cX0_apply 90 = .ok (.aload_n 0, 1) := by decide +kernel
theorem dX0_apply_91 : decode cX0_apply 91 = .ok (.aload_n 0, 1) := by decide +kernel
theorem dX0_apply_92 : decode cX0_apply 92 = .ok (.invokevirtual 77, 3) := by decide +kernel
theorem dX0_apply_95 : decode cX0_apply 95 = .ok (.aload_n 1, 1) := by decide +kernel
theorem dX0_apply_96 : decode cX0_apply 96 = .ok (.getfield 101, 3) := by decide +kernel
theorem dX0_apply_99 : decode cX0_apply 99 = .ok (.lsub, 1) := by decide +kernel
theorem dX0_apply_100 : decode cX0_apply 100 = .ok (.invokevirtual 111, 3) := by decide +kernel
theorem dX0_apply_103 : decode cX0_apply 103 = .ok (.goto 48, 3) := by decide +kernel
theorem dX0_apply_106 : decode cX0_apply 106 = .ok (.aload_n 0, 1) := by decide +kernel
theorem dX0_apply_107 : decode cX0_apply 107 = .ok (.aload_n 1, 1) := by decide +kernel
theorem dX0_apply_108 : decode cX0_apply 108 = .ok (.getfield 101, 3) := by decide +kernel
theorem dX0_apply_111 : decode cX0_apply 111 = .ok (.aload_n 0, 1) := by decide +kernel
theorem dX0_apply_112 : decode cX0_apply 112 = .ok (.invokevirtual 77, 3) := by decide +kernel
theorem dX0_apply_115 : decode cX0_apply 115 = .ok (.lsub, 1) := by decide +kernel
theorem dX0_apply_116 : decode cX0_apply 116 = .ok (.invokevirtual 114, 3) := by decide +kernel
theorem dX0_apply_119 : decode cX0_apply 119 = .ok (.goto 32, 3) := by decide +kernel
theorem dX0_apply_122 : decode cX0_apply 122 = .ok (.aload_n 0, 1) := by decide +kernel
theorem dX0_apply_123 : decode cX0_apply 123 = .ok (.aload_n 1, 1) := by decide +kernel
theorem dX0_apply_124 : decode cX0_apply 124 = .ok (.getfield 104, 3) := by decide +kernel
theorem dX0_apply_127 : decode cX0_apply 127 = .ok (.invokevirtual 117, 3) := by decide +kernel
theorem dX0_apply_130 : decode cX0_apply 130 = .ok (.goto 21, 3) := by decide +kernel
theorem dX0_apply_133 : decode cX0_apply 133 = .ok (.aload_n 0, 1) := by decide +kernel
theorem dX0_apply_134 : decode cX0_apply 134 = .ok (.aload_n 1, 1) := by decide +kernel
theorem dX0_apply_135 : decode cX0_apply 135 = .ok (.getfield 89, 3) := by decide +kernel
theorem dX0_apply_138 : decode cX0_apply 138 = .ok (.bipush 6, 2) := by decide +kernel
theorem dX0_apply_140 : decode cX0_apply 140 = .ok (.if_icmp .ne 7, 3) := by decide +kernel
theorem dX0_apply_143 : decode cX0_apply 143 = .ok (.iconst 1, 1) := by decide +kernel
theorem dX0_apply_144 : decode cX0_apply 144 = .ok (.goto 4, 3) := by decide +kernel
theorem dX0_apply_147 : decode cX0_apply 147 = .ok (.iconst 0, 1) := by decide +kernel
theorem dX0_apply_148 : decode cX0_apply 148 = .ok (.putfield 53, 3) := by decide +kernel
theorem dX0_apply_151 : decode cX0_apply 151 = .ok (.return_, 1) := by decide +kernel
set_option maxRecDepth 20000 in
theorem ggX0_revalue_X0_book : GoodIn wsX0_revalue wsX0_book := goodIn_r _ [8, 2, 3, 18, 19, 20, 21, 22, 23, 24, 25, 26, 27, 28, 29, 30, 31, 32] (by decide +kernel) (by decide +kernel)
set_option maxRecDepth 20000 in
theorem gX0_revalue_X0_book : GoodIn wsX0_revalue (wsV RX0 77 RX0 yX0_book wsX0_book) := goodIn_app (goodIn_of _ (by decide +kernel)) ggX0_revalue_X0_book
set_option maxRecDepth 20000 in
theorem ggX0_revalue_X0_lose : GoodIn wsX0_revalue wsX0_lose := goodIn_r _ [12, 1, 13, 14, 15, 16, 17, 18, 19, 20, 21, 22, 23, 24, 25, 26, 27, 28, 29, 30, 31, 32] (by decide +kernel) (by decide +kernel)
set_option maxRecDepth 20000 in
theorem gX0_revalue_X0_lose : GoodIn wsX0_revalue (wsV RX0 121 RX0 yX0_lose wsX0_lose) := goodIn_app (goodIn_of _ (by decide +kernel)) ggX0_revalue_X0_lose
theorem dX0_revalue_0 : decode cX0_revalue 0 = .ok (.lload_n 1, 1) := by decide +kernel
theorem dX0_revalue_1 : decode cX0_revalue 1 = .ok (.aload_n 0, 1) := by decide +kernel
theorem dX0_revalue_2 : decode cX0_revalue 2 = .ok (.invokevirtual 77, 3) := by decide +kernel
theorem dX0_revalue_5 : decode cX0_revalue 5 = .ok (.lcmp, 1) := by decide +kernel
theorem dX0_revalue_6 : decode cX0_revalue 6 = .ok (.ifCond .le 21, 3) := by decide +kernel
theorem dX0_revalue_9 : decode cX0_revalue 9 = .ok (.aload_n 0, 1) := by decide +kernel
theorem dX0_revalue_10 : decode cX0_revalue 10 = .ok (.dup, 1) := by decide +kernel
theorem dX0_revalue_11 : decode cX0_revalue 11 = .ok (.getfield 37, 3) := by decide +kernel
theorem dX0_revalue_14 : decode cX0_revalue 14 = .ok (.lload_n 1, 1) := by decide +kernel
theorem dX0_revalue_15 : decode cX0_revalue 15 = .ok (.aload_n 0, 1) := by decide +kernel
theorem dX0_revalue_16 : decode cX0_revalue 16 = .ok (.invokevirtual 77, 3) := by decide +kernel
theorem dX0_revalue_19 : decode cX0_revalue 19 = .ok (.lsub, 1) := by decide +kernel
theorem dX0_revalue_20 : decode cX0_revalue 20 = .ok (.ladd, 1) := by decide +kernel
theorem dX0_revalue_21 : decode cX0_revalue 21 = .ok (.putfield 37, 3) := by decide +kernel
theorem dX0_revalue_24 : decode cX0_revalue 24 = .ok (.goto 13, 3) := by decide +kernel
theorem dX0_revalue_27 : decode cX0_revalue 27 = .ok (.aload_n 0, 1) := by decide +kernel
theorem dX0_revalue_28 : decode cX0_revalue 28 = .ok (.aload_n 0, 1) := by decide +kernel
theorem dX0_revalue_29 : decode cX0_revalue 29 = .ok (.invokevirtual 77, 3) := by decide +kernel
theorem dX0_revalue_32 : decode cX0_revalue 32 = .ok (.lload_n 1, 1) := by decide +kernel
theorem dX0_revalue_33 : decode cX0_revalue 33 = .ok (.lsub, 1) := by decide +kernel
theorem dX0_revalue_34 : decode cX0_revalue 34 = .ok (.invokevirtual 121, 3) := by decide +kernel
theorem dX0_revalue_37 : decode cX0_revalue 37 = .ok (.aload_n 0, 1) := by decide +kernel
theorem dX0_revalue_38 : decode cX0_revalue 38 = .ok (.lload_n 1, 1) := by decide +kernel
theorem dX0_revalue_39 : decode cX0_revalue 39 = .ok (.putfield 33, 3) := by decide +kernel
theorem dX0_revalue_42 : decode cX0_revalue 42 = .ok (.aload_n 0, 1) := by decide +kernel
theorem dX0_revalue_43 : decode cX0_revalue 43 = .ok (.lconst 0, 1) := by decide +kernel
theorem dX0_revalue_44 : decode cX0_revalue 44 = .ok (.putfield 34, 3) := by decide +kernel
theorem dX0_revalue_47 : decode cX0_revalue 47 = .ok (.return_, 1) := by decide +kernel
set_option maxRecDepth 20000 in
theorem ggX0_impair_X0_lose : GoodIn wsX0_impair wsX0_lose := goodIn_r _ [6, 7, 8, 9, 10, 11, 12, 13, 14, 15, 16, 17, 18, 19, 20, 21, 22, 23, 24, 25, 26, 27] (by decide +kernel) (by decide +kernel)
set_option maxRecDepth 20000 in
theorem gX0_impair_X0_lose : GoodIn wsX0_impair (wsV RX0 121 RX0 yX0_lose wsX0_lose) := goodIn_app (goodIn_of _ (by decide +kernel)) ggX0_impair_X0_lose
theorem dX0_impair_0 : decode cX0_impair 0 = .ok (.aload_n 0, 1) := by decide +kernel
theorem dX0_impair_1 : decode cX0_impair 1 = .ok (.lload_n 1, 1) := by decide +kernel
theorem dX0_impair_2 : decode cX0_impair 2 = .ok (.invokevirtual 121, 3) := by decide +kernel
theorem dX0_impair_5 : decode cX0_impair 5 = .ok (.aload_n 0, 1) := by decide +kernel
theorem dX0_impair_6 : decode cX0_impair 6 = .ok (.dup, 1) := by decide +kernel
theorem dX0_impair_7 : decode cX0_impair 7 = .ok (.getfield 34, 3) := by decide +kernel
theorem dX0_impair_10 : decode cX0_impair 10 = .ok (.lload_n 1, 1) := by decide +kernel
theorem dX0_impair_11 : decode cX0_impair 11 = .ok (.ladd, 1) := by decide +kernel
theorem dX0_impair_12 : decode cX0_impair 12 = .ok (.putfield 34, 3) := by decide +kernel
theorem dX0_impair_15 : decode cX0_impair 15 = .ok (.return_, 1) := by decide +kernel
theorem dX0_lose_0 : decode cX0_lose 0 = .ok (.lload_n 1, 1) := by decide +kernel
theorem dX0_lose_1 : decode cX0_lose 1 = .ok (.aload_n 0, 1) := by decide +kernel
theorem dX0_lose_2 : decode cX0_lose 2 = .ok (.getfield 37, 3) := by decide +kernel
theorem dX0_lose_5 : decode cX0_lose 5 = .ok (.invokestatic 124, 3) := by decide +kernel
theorem dX0_lose_8 : decode cX0_lose 8 = .ok (.lstore_n 3, 1) := by decide +kernel
theorem dX0_lose_9 : decode cX0_lose 9 = .ok (.aload_n 0, 1) := by decide +kernel
theorem dX0_lose_10 : decode cX0_lose 10 = .ok (.dup, 1) := by decide +kernel
theorem dX0_lose_11 : decode cX0_lose 11 = .ok (.getfield 37, 3) := by decide +kernel
theorem dX0_lose_14 : decode cX0_lose 14 = .ok (.lload_n 3, 1) := by decide +kernel
theorem dX0_lose_15 : decode cX0_lose 15 = .ok (.lsub, 1) := by decide +kernel
theorem dX0_lose_16 : decode cX0_lose 16 = .ok (.putfield 37, 3) := by decide +kernel
theorem dX0_lose_19 : decode cX0_lose 19 = .ok (.aload_n 0, 1) := by decide +kernel
theorem dX0_lose_20 : decode cX0_lose 20 = .ok (.dup, 1) := by decide +kernel
theorem dX0_lose_21 : decode cX0_lose 21 = .ok (.getfield 40, 3) := by decide +kernel
theorem dX0_lose_24 : decode cX0_lose 24 = .ok (.lload_n 1, 1) := by decide +kernel
theorem dX0_lose_25 : decode cX0_lose 25 = .ok (.lload_n 3, 1) := by decide +kernel
theorem dX0_lose_26 : decode cX0_lose 26 = .ok (.lsub, 1) := by decide +kernel
theorem dX0_lose_27 : decode cX0_lose 27 = .ok (.ladd, 1) := by decide +kernel
theorem dX0_lose_28 : decode cX0_lose 28 = .ok (.putfield 40, 3) := by decide +kernel
theorem dX0_lose_31 : decode cX0_lose 31 = .ok (.return_, 1) := by decide +kernel
theorem dX0_restore_0 : decode cX0_restore 0 = .ok (.aload_n 0, 1) := by decide +kernel
theorem dX0_restore_1 : decode cX0_restore 1 = .ok (.dup, 1) := by decide +kernel
theorem dX0_restore_2 : decode cX0_restore 2 = .ok (.getfield 34, 3) := by decide +kernel
theorem dX0_restore_5 : decode cX0_restore 5 = .ok (.lload_n 1, 1) := by decide +kernel
theorem dX0_restore_6 : decode cX0_restore 6 = .ok (.lsub, 1) := by decide +kernel
theorem dX0_restore_7 : decode cX0_restore 7 = .ok (.putfield 34, 3) := by decide +kernel
theorem dX0_restore_10 : decode cX0_restore 10 = .ok (.aload_n 0, 1) := by decide +kernel
theorem dX0_restore_11 : decode cX0_restore 11 = .ok (.dup, 1) := by decide +kernel
theorem dX0_restore_12 : decode cX0_restore 12 = .ok (.getfield 40, 3) := by decide +kernel
theorem dX0_restore_15 : decode cX0_restore 15 = .ok (.lload_n 1, 1) := by decide +kernel
theorem dX0_restore_16 : decode cX0_restore 16 = .ok (.aload_n 0, 1) := by decide +kernel
theorem dX0_restore_17 : decode cX0_restore 17 = .ok (.getfield 40, 3) := by decide +kernel
theorem dX0_restore_20 : decode cX0_restore 20 = .ok (.invokestatic 124, 3) := by decide +kernel
theorem dX0_restore_23 : decode cX0_restore 23 = .ok (.lsub, 1) := by decide +kernel
theorem dX0_restore_24 : decode cX0_restore 24 = .ok (.putfield 40, 3) := by decide +kernel
theorem dX0_restore_27 : decode cX0_restore 27 = .ok (.return_, 1) := by decide +kernel
set_option maxRecDepth 20000 in
theorem ggX0_sell_X4_rounded : GoodIn wsX0_sell wsX4_rounded := goodIn_r _ [10, 11] (by decide +kernel) (by decide +kernel)
set_option maxRecDepth 20000 in
theorem gX0_sell_X4_rounded_n132 : GoodIn wsX0_sell (wsX4_rounded) := ggX0_sell_X4_rounded
theorem dX0_sell_0 : decode cX0_sell 0 = .ok (.aload_n 0, 1) := by decide +kernel
theorem dX0_sell_1 : decode cX0_sell 1 = .ok (.dup, 1) := by decide +kernel
theorem dX0_sell_2 : decode cX0_sell 2 = .ok (.getfield 33, 3) := by decide +kernel
theorem dX0_sell_5 : decode cX0_sell 5 = .ok (.aload_n 0, 1) := by decide +kernel
theorem dX0_sell_6 : decode cX0_sell 6 = .ok (.getfield 33, 3) := by decide +kernel
theorem dX0_sell_9 : decode cX0_sell 9 = .ok (.iload_n 1, 1) := by decide +kernel
theorem dX0_sell_10 : decode cX0_sell 10 = .ok (.i2l, 1) := by decide +kernel
theorem dX0_sell_11 : decode cX0_sell 11 = .ok (.lmul, 1) := by decide +kernel
theorem dX0_sell_12 : decode cX0_sell 12 = .ok (.ldc2_w 130, 3) := by decide +kernel
theorem dX0_sell_15 : decode cX0_sell 15 = .ok (.invokestatic 132, 3) := by decide +kernel
theorem dX0_sell_18 : decode cX0_sell 18 = .ok (.lsub, 1) := by decide +kernel
theorem dX0_sell_19 : decode cX0_sell 19 = .ok (.putfield 33, 3) := by decide +kernel
theorem dX0_sell_22 : decode cX0_sell 22 = .ok (.aload_n 0, 1) := by decide +kernel
theorem dX0_sell_23 : decode cX0_sell 23 = .ok (.dup, 1) := by decide +kernel
theorem dX0_sell_24 : decode cX0_sell 24 = .ok (.getfield 34, 3) := by decide +kernel
theorem dX0_sell_27 : decode cX0_sell 27 = .ok (.aload_n 0, 1) := by decide +kernel
theorem dX0_sell_28 : decode cX0_sell 28 = .ok (.getfield 34, 3) := by decide +kernel
theorem dX0_sell_31 : decode cX0_sell 31 = .ok (.iload_n 1, 1) := by decide +kernel
theorem dX0_sell_32 : decode cX0_sell 32 = .ok (.i2l, 1) := by decide +kernel
theorem dX0_sell_33 : decode cX0_sell 33 = .ok (.lmul, 1) := by decide +kernel
theorem dX0_sell_34 : decode cX0_sell 34 = .ok (.ldc2_w 130, 3) := by decide +kernel
theorem dX0_sell_37 : decode cX0_sell 37 = .ok (.invokestatic 132, 3) := by decide +kernel
theorem dX0_sell_40 : decode cX0_sell 40 = .ok (.lsub, 1) := by decide +kernel
theorem dX0_sell_41 : decode cX0_sell 41 = .ok (.putfield 34, 3) := by decide +kernel
theorem dX0_sell_44 : decode cX0_sell 44 = .ok (.aload_n 0, 1) := by decide +kernel
theorem dX0_sell_45 : decode cX0_sell 45 = .ok (.dup, 1) := by decide +kernel
theorem dX0_sell_46 : decode cX0_sell 46 = .ok (.getfield 37, 3) := by decide +kernel
theorem dX0_sell_49 : decode cX0_sell 49 = .ok (.aload_n 0, 1) := by decide +kernel
theorem dX0_sell_50 : decode cX0_sell 50 = .ok (.getfield 37, 3) := by decide +kernel
theorem dX0_sell_53 : decode cX0_sell 53 = .ok (.iload_n 1, 1) := by decide +kernel
theorem dX0_sell_54 : decode cX0_sell 54 = .ok (.i2l, 1) := by decide +kernel
theorem dX0_sell_55 : decode cX0_sell 55 = .ok (.lmul, 1) := by decide +kernel
theorem dX0_sell_56 : decode cX0_sell 56 = .ok (.ldc2_w 130, 3) := by decide +kernel
theorem dX0_sell_59 : decode cX0_sell 59 = .ok (.invokestatic 132, 3) := by decide +kernel
theorem dX0_sell_62 : decode cX0_sell 62 = .ok (.lsub, 1) := by decide +kernel
theorem dX0_sell_63 : decode cX0_sell 63 = .ok (.putfield 37, 3) := by decide +kernel
theorem dX0_sell_66 : decode cX0_sell 66 = .ok (.aload_n 0, 1) := by decide +kernel
theorem dX0_sell_67 : decode cX0_sell 67 = .ok (.dup, 1) := by decide +kernel
theorem dX0_sell_68 : decode cX0_sell 68 = .ok (.getfield 46, 3) := by decide +kernel
theorem dX0_sell_71 : decode cX0_sell 71 = .ok (.aload_n 0, 1) := by decide +kernel
theorem dX0_sell_72 : decode cX0_sell 72 = .ok (.getfield 46, 3) := by decide +kernel
theorem dX0_sell_75 : decode cX0_sell 75 = .ok (.iload_n 1, 1) := by decide +kernel
theorem dX0_sell_76 : decode cX0_sell 76 = .ok (.i2l, 1) := by decide +kernel
theorem dX0_sell_77 : decode cX0_sell 77 = .ok (.lmul, 1) := by decide +kernel
theorem dX0_sell_78 : decode cX0_sell 78 = .ok (.ldc2_w 130, 3) := by decide +kernel
theorem dX0_sell_81 : decode cX0_sell 81 = .ok (.invokestatic 132, 3) := by decide +kernel
theorem dX0_sell_84 : decode cX0_sell 84 = .ok (.lsub, 1) := by decide +kernel
theorem dX0_sell_85 : decode cX0_sell 85 = .ok (.putfield 46, 3) := by decide +kernel
theorem dX0_sell_88 : decode cX0_sell 88 = .ok (.aload_n 0, 1) := by decide +kernel
theorem dX0_sell_89 : decode cX0_sell 89 = .ok (.iload_n 1, 1) := by decide +kernel
theorem dX0_sell_90 : decode cX0_sell 90 = .ok (.ldc 135, 2) := by decide +kernel
theorem dX0_sell_92 : decode cX0_sell 92 = .ok (.if_icmp .ne 7, 3) := by decide +kernel
theorem dX0_sell_95 : decode cX0_sell 95 = .ok (.iconst 1, 1) := by decide +kernel
theorem dX0_sell_96 : decode cX0_sell 96 = .ok (.goto 4, 3) := by decide +kernel
theorem dX0_sell_99 : decode cX0_sell 99 = .ok (.iconst 0, 1) := by decide +kernel
theorem dX0_sell_100 : decode cX0_sell 100 = .ok (.putfield 57, 3) := by decide +kernel
theorem dX0_sell_103 : decode cX0_sell 103 = .ok (.return_, 1) := by decide +kernel
set_option maxRecDepth 20000 in
theorem ggX0_beginStretch_X0_book : GoodIn wsX0_beginStretch wsX0_book := goodIn_r _ [14, 15, 16, 28, 29, 30, 31, 32, 33, 34, 35, 36, 37, 38, 39, 40, 41, 42] (by decide +kernel) (by decide +kernel)
set_option maxRecDepth 20000 in
theorem gX0_beginStretch_X0_book : GoodIn wsX0_beginStretch (wsV RX0 77 RX0 yX0_book wsX0_book) := goodIn_app (goodIn_of _ (by decide +kernel)) ggX0_beginStretch_X0_book
set_option maxRecDepth 20000 in
theorem ggX0_beginStretch_X3_begin : GoodIn wsX0_beginStretch wsX3_begin := goodIn_r _ [21, 22, 23, 24, 25, 26, 27, 43, 44, 45, 46, 47, 48] (by decide +kernel) (by decide +kernel)
set_option maxRecDepth 20000 in
theorem gX0_beginStretch_X3_begin : GoodIn wsX0_beginStretch (wsV RX0 139 RX3 yX3_begin wsX3_begin) := goodIn_app (goodIn_of _ (by decide +kernel)) ggX0_beginStretch_X3_begin
theorem dX0_beginStretch_0 : decode cX0_beginStretch 0 = .ok (.aload_n 0, 1) := by decide +kernel
theorem dX0_beginStretch_1 : decode cX0_beginStretch 1 = .ok (.getfield 12, 3) := by decide +kernel
theorem dX0_beginStretch_4 : decode cX0_beginStretch 4 = .ok (.lconst 0, 1) := by decide +kernel
theorem dX0_beginStretch_5 : decode cX0_beginStretch 5 = .ok (.aload_n 0, 1) := by decide +kernel
theorem dX0_beginStretch_6 : decode cX0_beginStretch 6 = .ok (.invokevirtual 77, 3) := by decide +kernel
theorem dX0_beginStretch_9 : decode cX0_beginStretch 9 = .ok (.aload_n 0, 1) := by decide +kernel
theorem dX0_beginStretch_10 : decode cX0_beginStretch 10 = .ok (.getfield 46, 3) := by decide +kernel
theorem dX0_beginStretch_13 : decode cX0_beginStretch 13 = .ok (.lsub, 1) := by decide +kernel
theorem dX0_beginStretch_14 : decode cX0_beginStretch 14 = .ok (.invokestatic 136, 3) := by decide +kernel
theorem dX0_beginStretch_17 : decode cX0_beginStretch 17 = .ok (.aload_n 0, 1) := by decide +kernel
theorem dX0_beginStretch_18 : decode cX0_beginStretch 18 = .ok (.getfield 50, 3) := by decide +kernel
theorem dX0_beginStretch_21 : decode cX0_beginStretch 21 = .ok (.i2l, 1) := by decide +kernel
theorem dX0_beginStretch_22 : decode cX0_beginStretch 22 = .ok (.lconst 0, 1) := by decide +kernel
theorem dX0_beginStretch_23 : decode cX0_beginStretch 23 = .ok (.aload_n 0, 1) := by decide +kernel
theorem dX0_beginStretch_24 : decode cX0_beginStretch 24 = .ok (.getfield 28, 3) := by decide +kernel
theorem dX0_beginStretch_27 : decode cX0_beginStretch 27 = .ok (.i2l, 1) := by decide +kernel
theorem dX0_beginStretch_28 : decode cX0_beginStretch 28 = .ok (.aload_n 0, 1) := by decide +kernel
theorem dX0_beginStretch_29 : decode cX0_beginStretch 29 = .ok (.getfield 63, 3) := by decide +kernel
theorem dX0_beginStretch_32 : decode cX0_beginStretch 32 = .ok (.lsub, 1) := by decide +kernel
theorem dX0_beginStretch_33 : decode cX0_beginStretch 33 = .ok (.invokestatic 136, 3) := by decide +kernel
theorem dX0_beginStretch_36 : decode cX0_beginStretch 36 = .ok (.invokevirtual 139, 3) := by decide +kernel
theorem dX0_beginStretch_39 : decode cX0_beginStretch 39 = .ok (.return_, 1) := by decide +kernel
set_option maxRecDepth 20000 in
theorem ggX0_decliningCharge_X0_book : GoodIn wsX0_decliningCharge wsX0_book := goodIn_r _ [16, 17, 18, 23, 24, 25, 26, 27, 28, 29, 30, 31, 32, 33, 34, 35, 36, 37] (by decide +kernel) (by decide +kernel)
set_option maxRecDepth 20000 in
theorem gX0_decliningCharge_X0_book : GoodIn wsX0_decliningCharge (wsV RX0 77 RX0 yX0_book wsX0_book) := goodIn_app (goodIn_of _ (by decide +kernel)) ggX0_decliningCharge_X0_book
set_option maxRecDepth 20000 in
theorem ggX0_decliningCharge_X4_rounded : GoodIn wsX0_decliningCharge wsX4_rounded := goodIn_r _ [21, 22] (by decide +kernel) (by decide +kernel)
set_option maxRecDepth 20000 in
theorem gX0_decliningCharge_X4_rounded_n132 : GoodIn wsX0_decliningCharge (wsX4_rounded) := ggX0_decliningCharge_X4_rounded
theorem dX0_decliningCharge_0 : decode cX0_decliningCharge 0 = .ok (.aload_n 0, 1) := by decide +kernel
theorem dX0_decliningCharge_1 : decode cX0_decliningCharge 1 = .ok (.invokevirtual 77, 3) := by decide +kernel
theorem dX0_decliningCharge_4 : decode cX0_decliningCharge 4 = .ok (.aload_n 0, 1) := by decide +kernel
theorem dX0_decliningCharge_5 : decode cX0_decliningCharge 5 = .ok (.getfield 46, 3) := by decide +kernel
theorem dX0_decliningCharge_8 : decode cX0_decliningCharge 8 = .ok (.lsub, 1) := by decide +kernel
theorem dX0_decliningCharge_9 : decode cX0_decliningCharge 9 = .ok (.lstore_n 1, 1) := by decide +kernel
theorem dX0_decliningCharge_10 : decode cX0_decliningCharge 10 = .ok (.lload_n 1, 1) := by decide +kernel
theorem dX0_decliningCharge_11 : decode cX0_decliningCharge 11 = .ok (.lconst 0, 1) := by decide +kernel
theorem dX0_decliningCharge_12 : decode cX0_decliningCharge 12 = .ok (.lcmp, 1) := by decide +kernel
theorem dX0_decliningCharge_13 : decode cX0_decliningCharge 13 = .ok (.ifCond .gt 5, 3) := by decide +kernel
theorem dX0_decliningCharge_16 : decode cX0_decliningCharge 16 = .ok (.lconst 0, 1) := by decide +kernel
theorem dX0_decliningCharge_17 : decode cX0_decliningCharge 17 = .ok (.lreturn, 1) := by decide +kernel
theorem dX0_decliningCharge_18 : decode cX0_decliningCharge 18 = .ok (.aload_n 0, 1) := by decide +kernel
theorem dX0_decliningCharge_19 : decode cX0_decliningCharge 19 = .ok (.getfield 50, 3) := by decide +kernel
theorem dX0_decliningCharge_22 : decode cX0_decliningCharge 22 = .ok (.iconst 1, 1) := by decide +kernel
theorem dX0_decliningCharge_23 : decode cX0_decliningCharge 23 = .ok (.if_icmp .ne 5, 3) := by decide +kernel
theorem dX0_decliningCharge_26 : decode cX0_decliningCharge 26 = .ok (.lload_n 1, 1) := by decide +kernel
theorem dX0_decliningCharge_27 : decode cX0_decliningCharge 27 = .ok (.lreturn, 1) := by decide +kernel
theorem dX0_decliningCharge_28 : decode cX0_decliningCharge 28 = .ok (.aload_n 0, 1) := by decide +kernel
theorem dX0_decliningCharge_29 : decode cX0_decliningCharge 29 = .ok (.invokevirtual 77, 3) := by decide +kernel
theorem dX0_decliningCharge_32 : decode cX0_decliningCharge 32 = .ok (.aload_n 0, 1) := by decide +kernel
theorem dX0_decliningCharge_33 : decode cX0_decliningCharge 33 = .ok (.getfield 28, 3) := by decide +kernel
theorem dX0_decliningCharge_36 : decode cX0_decliningCharge 36 = .ok (.i2l, 1) := by decide +kernel
theorem dX0_decliningCharge_37 : decode cX0_decliningCharge 37 = .ok (.lmul, 1) := by decide +kernel
theorem dX0_decliningCharge_38 : decode cX0_decliningCharge 38 = .ok (.ldc2_w 130, 3) := by decide +kernel
theorem dX0_decliningCharge_41 : decode cX0_decliningCharge 41 = .ok (.invokestatic 132, 3) := by decide +kernel
theorem dX0_decliningCharge_44 : decode cX0_decliningCharge 44 = .ok (.lstore_n 3, 1) := by decide +kernel
theorem dX0_decliningCharge_45 : decode cX0_decliningCharge 45 = .ok (.lload_n 1, 1) := by decide +kernel
theorem dX0_decliningCharge_46 : decode cX0_decliningCharge 46 = .ok (.aload_n 0, 1) := by decide +kernel
theorem dX0_decliningCharge_47 : decode cX0_decliningCharge 47 = .ok (.getfield 50, 3) := by decide +kernel
theorem dX0_decliningCharge_50 : decode cX0_decliningCharge 50 = .ok (.i2l, 1) := by decide +kernel
theorem dX0_decliningCharge_51 : decode cX0_decliningCharge 51 = .ok (.invokestatic 132, 3) := by decide +kernel
theorem dX0_decliningCharge_54 : decode cX0_decliningCharge 54 = .ok (.lstore 5, 2) := by decide +kernel
theorem dX0_decliningCharge_56 : decode cX0_decliningCharge 56 = .ok (.lload_n 1, 1) := by decide +kernel
theorem dX0_decliningCharge_57 : decode cX0_decliningCharge 57 = .ok (.lload_n 3, 1) := by decide +kernel
theorem dX0_decliningCharge_58 : decode cX0_decliningCharge 58 = .ok (.lload 5, 2) := by decide +kernel
theorem dX0_decliningCharge_60 : decode cX0_decliningCharge 60 = .ok (.invokestatic 136, 3) := by decide +kernel
theorem dX0_decliningCharge_63 : decode cX0_decliningCharge 63 = .ok (.invokestatic 124, 3) := by decide +kernel
theorem dX0_decliningCharge_66 : decode cX0_decliningCharge 66 = .ok (.lreturn, 1) := by decide +kernel
theorem dX1_init_0 : decode cX1_init 0 = .ok (.aload_n 0, 1) := by decide +kernel
theorem dX1_init_1 : decode cX1_init 1 = .ok (.invokespecial 1, 3) := by decide +kernel
theorem dX1_init_4 : decode cX1_init 4 = .ok (.aload_n 0, 1) := by decide +kernel
theorem dX1_init_5 : decode cX1_init 5 = .ok (.iload_n 1, 1) := by decide +kernel
theorem dX1_init_6 : decode cX1_init 6 = .ok (.putfield 7, 3) := by decide +kernel
theorem dX1_init_9 : decode cX1_init 9 = .ok (.aload_n 0, 1) := by decide +kernel
theorem dX1_init_10 : decode cX1_init 10 = .ok (.iload_n 2, 1) := by decide +kernel
theorem dX1_init_11 : decode cX1_init 11 = .ok (.putfield 13, 3) := by decide +kernel
theorem dX1_init_14 : decode cX1_init 14 = .ok (.aload_n 0, 1) := by decide +kernel
theorem dX1_init_15 : decode cX1_init 15 = .ok (.iload_n 3, 1) := by decide +kernel
theorem dX1_init_16 : decode cX1_init 16 = .ok (.putfield 16, 3) := by decide +kernel
theorem dX1_init_19 : decode cX1_init 19 = .ok (.aload_n 0, 1) := by decide +kernel
theorem dX1_init_20 : decode cX1_init 20 = .ok (.lload 4, 2) := by decide +kernel
theorem dX1_init_22 : decode cX1_init 22 = .ok (.putfield 19, 3) := by decide +kernel
theorem dX1_init_25 : decode cX1_init 25 = .ok (.aload_n 0, 1) := by decide +kernel
theorem dX1_init_26 : decode cX1_init 26 = .ok (.iload 6, 2) := by decide +kernel
theorem dX1_init_28 : decode cX1_init 28 = .ok (.putfield 23, 3) := by decide +kernel
theorem dX1_init_31 : decode cX1_init 31 = .ok (.return_, 1) := by decide +kernel
theorem dX2_init_0 : decode cX2_init 0 = .ok (.aload_n 0, 1) := by decide +kernel
theorem dX2_init_1 : decode cX2_init 1 = .ok (.invokespecial 3, 3) := by decide +kernel
theorem dX2_init_4 : decode cX2_init 4 = .ok (.aload_n 0, 1) := by decide +kernel
theorem dX2_init_5 : decode cX2_init 5 = .ok (.lload_n 1, 1) := by decide +kernel
theorem dX2_init_6 : decode cX2_init 6 = .ok (.putfield 9, 3) := by decide +kernel
theorem dX2_init_9 : decode cX2_init 9 = .ok (.aload_n 0, 1) := by decide +kernel
theorem dX2_init_10 : decode cX2_init 10 = .ok (.lload_n 3, 1) := by decide +kernel
theorem dX2_init_11 : decode cX2_init 11 = .ok (.putfield 15, 3) := by decide +kernel
theorem dX2_init_14 : decode cX2_init 14 = .ok (.aload_n 0, 1) := by decide +kernel
theorem dX2_init_15 : decode cX2_init 15 = .ok (.iload 5, 2) := by decide +kernel
theorem dX2_init_17 : decode cX2_init 17 = .ok (.putfield 18, 3) := by decide +kernel
theorem dX2_init_20 : decode cX2_init 20 = .ok (.aload_n 0, 1) := by decide +kernel
theorem dX2_init_21 : decode cX2_init 21 = .ok (.iload 6, 2) := by decide +kernel
theorem dX2_init_23 : decode cX2_init 23 = .ok (.putfield 22, 3) := by decide +kernel
theorem dX2_init_26 : decode cX2_init 26 = .ok (.aload_n 0, 1) := by decide +kernel
theorem dX2_init_27 : decode cX2_init 27 = .ok (.iload 7, 2) := by decide +kernel
theorem dX2_init_29 : decode cX2_init 29 = .ok (.putfield 25, 3) := by decide +kernel
theorem dX2_init_32 : decode cX2_init 32 = .ok (.aload_n 0, 1) := by decide +kernel
theorem dX2_init_33 : decode cX2_init 33 = .ok (.iload 8, 2) := by decide +kernel
theorem dX2_init_35 : decode cX2_init 35 = .ok (.putfield 28, 3) := by decide +kernel
theorem dX2_init_38 : decode cX2_init 38 = .ok (.aload_n 0, 1) := by decide +kernel
theorem dX2_init_39 : decode cX2_init 39 = .ok (.bipush 36, 2) := by decide +kernel
theorem dX2_init_41 : decode cX2_init 41 = .ok (.newarray .int, 2) := by decide +kernel
theorem dX2_init_43 : decode cX2_init 43 = .ok (.putfield 31, 3) := by decide +kernel
theorem dX2_init_46 : decode cX2_init 46 = .ok (.aload_n 0, 1) := by decide +kernel
theorem dX2_init_47 : decode cX2_init 47 = .ok (.bipush 36, 2) := by decide +kernel
theorem dX2_init_49 : decode cX2_init 49 = .ok (.anewarray 35, 3) := by decide +kernel
theorem dX2_init_52 : decode cX2_init 52 = .ok (.putfield 37, 3) := by decide +kernel
theorem dX2_init_55 : decode cX2_init 55 = .ok (.aload_n 0, 1) := by decide +kernel
theorem dX2_init_56 : decode cX2_init 56 = .ok (.bipush 36, 2) := by decide +kernel
theorem dX2_init_58 : decode cX2_init 58 = .ok (.newarray .long, 2) := by decide +kernel
theorem dX2_init_60 : decode cX2_init 60 = .ok (.putfield 41, 3) := by decide +kernel
theorem dX2_init_63 : decode cX2_init 63 = .ok (.return_, 1) := by decide +kernel
theorem dX3_init_0 : decode cX3_init 0 = .ok (.aload_n 0, 1) := by decide +kernel
theorem dX3_init_1 : decode cX3_init 1 = .ok (.invokespecial 3, 3) := by decide +kernel
theorem dX3_init_4 : decode cX3_init 4 = .ok (.return_, 1) := by decide +kernel
theorem dX3_begin_0 : decode cX3_begin 0 = .ok (.aload_n 0, 1) := by decide +kernel
theorem dX3_begin_1 : decode cX3_begin 1 = .ok (.lload_n 1, 1) := by decide +kernel
theorem dX3_begin_2 : decode cX3_begin 2 = .ok (.putfield 9, 3) := by decide +kernel
theorem dX3_begin_5 : decode cX3_begin 5 = .ok (.aload_n 0, 1) := by decide +kernel
theorem dX3_begin_6 : decode cX3_begin 6 = .ok (.lload_n 3, 1) := by decide +kernel
theorem dX3_begin_7 : decode cX3_begin 7 = .ok (.putfield 15, 3) := by decide +kernel
theorem dX3_begin_10 : decode cX3_begin 10 = .ok (.aload_n 0, 1) := by decide +kernel
theorem dX3_begin_11 : decode cX3_begin 11 = .ok (.lload 5, 2) := by decide +kernel
theorem dX3_begin_13 : decode cX3_begin 13 = .ok (.putfield 18, 3) := by decide +kernel
theorem dX3_begin_16 : decode cX3_begin 16 = .ok (.aload_n 0, 1) := by decide +kernel
theorem dX3_begin_17 : decode cX3_begin 17 = .ok (.lconst 0, 1) := by decide +kernel
theorem dX3_begin_18 : decode cX3_begin 18 = .ok (.putfield 21, 3) := by decide +kernel
theorem dX3_begin_21 : decode cX3_begin 21 = .ok (.aload_n 0, 1) := by decide +kernel
theorem dX3_begin_22 : decode cX3_begin 22 = .ok (.lconst 0, 1) := by decide +kernel
theorem dX3_begin_23 : decode cX3_begin 23 = .ok (.putfield 24, 3) := by decide +kernel
theorem dX3_begin_26 : decode cX3_begin 26 = .ok (.aload_n 0, 1) := by decide +kernel
theorem dX3_begin_27 : decode cX3_begin 27 = .ok (.lconst 0, 1) := by decide +kernel
theorem dX3_begin_28 : decode cX3_begin 28 = .ok (.putfield 27, 3) := by decide +kernel
theorem dX3_begin_31 : decode cX3_begin 31 = .ok (.return_, 1) := by decide +kernel
set_option maxRecDepth 20000 in
theorem ggX3_nextCharge_X3_chargesTogether : GoodIn wsX3_nextCharge wsX3_chargesTogether := goodIn_r _ [8, 9, 1, 10, 11, 2, 12, 13, 14, 15, 16, 17, 18, 19, 20, 21, 7, 22, 23, 24, 25, 26, 27, 28, 29] (by decide +kernel) (by decide +kernel)
set_option maxRecDepth 20000 in
theorem gX3_nextCharge_X3_chargesTogether : GoodIn wsX3_nextCharge (wsV RX3 30 RX3 yX3_chargesTogether wsX3_chargesTogether) := goodIn_app (goodIn_of _ (by decide +kernel)) ggX3_nextCharge_X3_chargesTogether
theorem dX3_nextCharge_0 : decode cX3_nextCharge 0 = .ok (.aload_n 0, 1) := by decide +kernel
theorem dX3_nextCharge_1 : decode cX3_nextCharge 1 = .ok (.dup, 1) := by decide +kernel
theorem dX3_nextCharge_2 : decode cX3_nextCharge 2 = .ok (.getfield 21, 3) := by decide +kernel
theorem dX3_nextCharge_5 : decode cX3_nextCharge 5 = .ok (.lconst 1, 1) := by decide +kernel
theorem dX3_nextCharge_6 : decode cX3_nextCharge 6 = .ok (.ladd, 1) := by decide +kernel
theorem dX3_nextCharge_7 : decode cX3_nextCharge 7 = .ok (.putfield 21, 3) := by decide +kernel
theorem dX3_nextCharge_10 : decode cX3_nextCharge 10 = .ok (.aload_n 0, 1) := by decide +kernel
theorem dX3_nextCharge_11 : decode cX3_nextCharge 11 = .ok (.dup, 1) := by decide +kernel
theorem dX3_nextCharge_12 : decode cX3_nextCharge 12 = .ok (.getfield 24, 3) := by decide +kernel
theorem dX3_nextCharge_15 : decode cX3_nextCharge 15 = .ok (.iload_n 2, 1) := by decide +kernel
theorem dX3_nextCharge_16 : decode cX3_nextCharge 16 = .ok (.i2l, 1) := by decide +kernel
theorem dX3_nextCharge_17 : decode cX3_nextCharge 17 = .ok (.ladd, 1) := by decide +kernel
theorem dX3_nextCharge_18 : decode cX3_nextCharge 18 = .ok (.putfield 24, 3) := by decide +kernel
theorem dX3_nextCharge_21 : decode cX3_nextCharge 21 = .ok (.aload_n 0, 1) := by decide +kernel
theorem dX3_nextCharge_22 : decode cX3_nextCharge 22 = .ok (.getfield 27, 3) := by decide +kernel
theorem dX3_nextCharge_25 : decode cX3_nextCharge 25 = .ok (.lstore_n 3, 1) := by decide +kernel
theorem dX3_nextCharge_26 : decode cX3_nextCharge 26 = .ok (.aload_n 0, 1) := by decide +kernel
theorem dX3_nextCharge_27 : decode cX3_nextCharge 27 = .ok (.aload_n 0, 1) := by decide +kernel
theorem dX3_nextCharge_28 : decode cX3_nextCharge 28 = .ok (.iload_n 1, 1) := by decide +kernel
theorem dX3_nextCharge_29 : decode cX3_nextCharge 29 = .ok (.invokevirtual 30, 3) := by decide +kernel
theorem dX3_nextCharge_32 : decode cX3_nextCharge 32 = .ok (.putfield 27, 3) := by decide +kernel
theorem dX3_nextCharge_35 : decode cX3_nextCharge 35 = .ok (.aload_n 0, 1) := by decide +kernel
theorem dX3_nextCharge_36 : decode cX3_nextCharge 36 = .ok (.getfield 27, 3) := by decide +kernel
theorem dX3_nextCharge_39 : decode cX3_nextCharge 39 = .ok (.lload_n 3, 1) := by decide +kernel
theorem dX3_nextCharge_40 : decode cX3_nextCharge 40 = .ok (.lsub, 1) := by decide +kernel
theorem dX3_nextCharge_41 : decode cX3_nextCharge 41 = .ok (.lreturn, 1) := by decide +kernel
set_option maxRecDepth 20000 in
theorem ggX3_chargesTogether_X4_rounded : GoodIn wsX3_chargesTogether wsX4_rounded := goodIn_r _ [12, 13] (by decide +kernel) (by decide +kernel)
set_option maxRecDepth 20000 in
theorem gX3_chargesTogether_X4_rounded_n34 : GoodIn wsX3_chargesTogether (wsX4_rounded) := ggX3_chargesTogether_X4_rounded
set_option maxRecDepth 20000 in
theorem ggX3_chargesTogether_X3_sumUpTo : GoodIn wsX3_chargesTogether wsX3_sumUpTo := goodIn_r _ [17, 18] (by decide +kernel) (by decide +kernel)
set_option maxRecDepth 20000 in
theorem gX3_chargesTogether_X3_sumUpTo : GoodIn wsX3_chargesTogether (va_wsS RX3 38 yX3_sumUpTo wsX3_sumUpTo) := goodIn_app (goodIn_of _ (by decide +kernel)) ggX3_chargesTogether_X3_sumUpTo
theorem dX3_chargesTogether_0 : decode cX3_chargesTogether 0 = .ok (.iload_n 1, 1) := by decide +kernel
theorem dX3_chargesTogether_1 : decode cX3_chargesTogether 1 = .ok (.lookupswitch 80 #[(0, 27), (2, 44)], 27) := by decide +kernel
theorem dX3_chargesTogether_28 : decode cX3_chargesTogether 28 = .ok (.aload_n 0, 1) := by decide +kernel
theorem dX3_chargesTogether_29 : decode cX3_chargesTogether 29 = .ok (.getfield 9, 3) := by decide +kernel
theorem dX3_chargesTogether_32 : decode cX3_chargesTogether 32 = .ok (.aload_n 0, 1) := by decide +kernel
theorem dX3_chargesTogether_33 : decode cX3_chargesTogether 33 = .ok (.getfield 21, 3) := by decide +kernel
theorem dX3_chargesTogether_36 : decode cX3_chargesTogether 36 = .ok (.lmul, 1) := by decide +kernel
theorem dX3_chargesTogether_37 : decode cX3_chargesTogether 37 = .ok (.aload_n 0, 1) := by decide +kernel
theorem dX3_chargesTogether_38 : decode cX3_chargesTogether 38 = .ok (.getfield 15, 3) := by decide +kernel
theorem dX3_chargesTogether_41 : decode cX3_chargesTogether 41 = .ok (.invokestatic 34, 3) := by decide +kernel
theorem dX3_chargesTogether_44 : decode cX3_chargesTogether 44 = .ok (.lreturn, 1) := by decide +kernel
theorem dX3_chargesTogether_45 : decode cX3_chargesTogether 45 = .ok (.aload_n 0, 1) := by decide +kernel
theorem dX3_chargesTogether_46 : decode cX3_chargesTogether 46 = .ok (.getfield 9, 3) := by decide +kernel
theorem dX3_chargesTogether_49 : decode cX3_chargesTogether 49 = .ok (.aload_n 0, 1) := by decide +kernel
theorem dX3_chargesTogether_50 : decode cX3_chargesTogether 50 = .ok (.getfield 15, 3) := by decide +kernel
theorem dX3_chargesTogether_53 : decode cX3_chargesTogether 53 = .ok (.invokestatic 38, 3) := by decide +kernel
theorem dX3_chargesTogether_56 : decode cX3_chargesTogether 56 = .ok (.aload_n 0, 1) := by decide +kernel
theorem dX3_chargesTogether_57 : decode cX3_chargesTogether 57 = .ok (.getfield 15, 3) := by decide +kernel
theorem dX3_chargesTogether_60 : decode cX3_chargesTogether 60 = .ok (.aload_n 0, 1) := by decide +kernel
theorem dX3_chargesTogether_61 : decode cX3_chargesTogether 61 = .ok (.getfield 21, 3) := by decide +kernel
theorem dX3_chargesTogether_64 : decode cX3_chargesTogether 64 = .ok (.lsub, 1) := by decide +kernel
theorem dX3_chargesTogether_65 : decode cX3_chargesTogether 65 = .ok (.invokestatic 38, 3) := by decide +kernel
theorem dX3_chargesTogether_68 : decode cX3_chargesTogether 68 = .ok (.lsub, 1) := by decide +kernel
theorem dX3_chargesTogether_69 : decode cX3_chargesTogether 69 = .ok (.lmul, 1) := by decide +kernel
theorem dX3_chargesTogether_70 : decode cX3_chargesTogether 70 = .ok (.aload_n 0, 1) := by decide +kernel
theorem dX3_chargesTogether_71 : decode cX3_chargesTogether 71 = .ok (.getfield 15, 3) := by decide +kernel
theorem dX3_chargesTogether_74 : decode cX3_chargesTogether 74 = .ok (.invokestatic 38, 3) := by decide +kernel
theorem dX3_chargesTogether_77 : decode cX3_chargesTogether 77 = .ok (.invokestatic 34, 3) := by decide +kernel
theorem dX3_chargesTogether_80 : decode cX3_chargesTogether 80 = .ok (.lreturn, 1) := by decide +kernel
theorem dX3_chargesTogether_81 : decode cX3_chargesTogether 81 = .ok (.aload_n 0, 1) := by decide +kernel
theorem dX3_chargesTogether_82 : decode cX3_chargesTogether 82 = .ok (.getfield 18, 3) := by decide +kernel
theorem dX3_chargesTogether_85 : decode cX3_chargesTogether 85 = .ok (.lconst 0, 1) := by decide +kernel
theorem dX3_chargesTogether_86 : decode cX3_chargesTogether 86 = .ok (.lcmp, 1) := by decide +kernel
theorem dX3_chargesTogether_87 : decode cX3_chargesTogether 87 = .ok (.ifCond .ne 10, 3) := by decide +kernel
theorem dX3_chargesTogether_90 : decode cX3_chargesTogether 90 = .ok (.aload_n 0, 1) := by decide +kernel
theorem dX3_chargesTogether_91 : decode cX3_chargesTogether 91 = .ok (.getfield 9, 3) := by decide +kernel
theorem dX3_chargesTogether_94 : decode cX3_chargesTogether 94 = .ok (.goto 26, 3) := by decide +kernel
theorem dX3_chargesTogether_97 : decode cX3_chargesTogether 97 = .ok (.aload_n 0, 1) := by decide +kernel
theorem dX3_chargesTogether_98 : decode cX3_chargesTogether 98 = .ok (.getfield 9, 3) := by decide +kernel
theorem dX3_chargesTogether_101 : decode cX3_chargesTogether 101 = .ok (.aload_n 0, 1) := by decide +kernel
theorem dX3_chargesTogether_102 : decode cX3_chargesTogether 102 = .ok (.getfield 24, 3) := by decide +kernel
theorem dX3_chargesTogether_105 : decode cX3_chargesTogether 105 = .ok (.aload_n 0, 1) := by decide +kernel
theorem dX3_chargesTogether_106 : decode cX3_chargesTogether 106 = .ok (.getfield 18, 3) := by decide +kernel
theorem dX3_chargesTogether_109 : decode cX3_chargesTogether 109 = .ok (.invokestatic 42, 3) := by decide +kernel
theorem dX3_chargesTogether_112 : decode cX3_chargesTogether 112 = .ok (.lmul, 1) := by decide +kernel
theorem dX3_chargesTogether_113 : decode cX3_chargesTogether 113 = .ok (.aload_n 0, 1) := by decide +kernel
theorem dX3_chargesTogether_114 : decode cX3_chargesTogether 114 = .ok (.getfield 18, 3) := by decide +kernel
theorem dX3_chargesTogether_117 : decode cX3_chargesTogether 117 = .ok (.invokestatic 34, 3) := by decide +kernel
theorem dX3_chargesTogether_120 : decode cX3_chargesTogether 120 = .ok (.lreturn, 1) := by decide +kernel
theorem dX3_sumUpTo_0 : decode cX3_sumUpTo 0 = .ok (.lload_n 0, 1) := by decide +kernel
theorem dX3_sumUpTo_1 : decode cX3_sumUpTo 1 = .ok (.lload_n 0, 1) := by decide +kernel
theorem dX3_sumUpTo_2 : decode cX3_sumUpTo 2 = .ok (.lconst 1, 1) := by decide +kernel
theorem dX3_sumUpTo_3 : decode cX3_sumUpTo 3 = .ok (.ladd, 1) := by decide +kernel
theorem dX3_sumUpTo_4 : decode cX3_sumUpTo 4 = .ok (.lmul, 1) := by decide +kernel
theorem dX3_sumUpTo_5 : decode cX3_sumUpTo 5 = .ok (.ldc2_w 47, 3) := by decide +kernel
theorem dX3_sumUpTo_8 : decode cX3_sumUpTo 8 = .ok (.ldiv, 1) := by decide +kernel
theorem dX3_sumUpTo_9 : decode cX3_sumUpTo 9 = .ok (.lreturn, 1) := by decide +kernel
set_option maxRecDepth 20000 in
theorem ggX4_init_X0_init : GoodIn wsX4_init wsX0_init := goodIn_r _ [15, 16, 2, 3, 17, 18, 19, 20, 21, 22, 23, 46, 47, 48, 49, 50, 51, 31, 32, 33, 34, 35, 36, 37, 38, 39, 40, 41, 42, 43, 44, 45] (by decide +kernel) (by decide +kernel)
set_option maxRecDepth 20000 in
theorem gX4_init_X0_init : GoodIn wsX4_init (wsX0_init) := ggX4_init_X0_init
theorem dX4_init_0 : decode cX4_init 0 = .ok (.aload_n 0, 1) := by decide +kernel
theorem dX4_init_1 : decode cX4_init 1 = .ok (.invokespecial 1, 3) := by decide +kernel
theorem dX4_init_4 : decode cX4_init 4 = .ok (.aload_n 0, 1) := by decide +kernel
theorem dX4_init_5 : decode cX4_init 5 = .ok (.bipush 6, 2) := by decide +kernel
theorem dX4_init_7 : decode cX4_init 7 = .ok (.anewarray 9, 3) := by decide +kernel
theorem dX4_init_10 : decode cX4_init 10 = .ok (.putfield 11, 3) := by decide +kernel
theorem dX4_init_13 : decode cX4_init 13 = .ok (.aload_n 0, 1) := by decide +kernel
theorem dX4_init_14 : decode cX4_init 14 = .ok (.bipush 40, 2) := by decide +kernel
theorem dX4_init_16 : decode cX4_init 16 = .ok (.anewarray 15, 3) := by decide +kernel
theorem dX4_init_19 : decode cX4_init 19 = .ok (.putfield 17, 3) := by decide +kernel
theorem dX4_init_22 : decode cX4_init 22 = .ok (.aload_n 0, 1) := by decide +kernel
theorem dX4_init_23 : decode cX4_init 23 = .ok (.new 21, 3) := by decide +kernel
theorem dX4_init_26 : decode cX4_init 26 = .ok (.dup, 1) := by decide +kernel
theorem dX4_init_27 : decode cX4_init 27 = .ok (.invokespecial 23, 3) := by decide +kernel
theorem dX4_init_30 : decode cX4_init 30 = .ok (.putfield 24, 3) := by decide +kernel
theorem dX4_init_33 : decode cX4_init 33 = .ok (.aload_n 0, 1) := by decide +kernel
theorem dX4_init_34 : decode cX4_init 34 = .ok (.new 21, 3) := by decide +kernel
theorem dX4_init_37 : decode cX4_init 37 = .ok (.dup, 1) := by decide +kernel
theorem dX4_init_38 : decode cX4_init 38 = .ok (.invokespecial 23, 3) := by decide +kernel
theorem dX4_init_41 : decode cX4_init 41 = .ok (.putfield 28, 3) := by decide +kernel
theorem dX4_init_44 : decode cX4_init 44 = .ok (.return_, 1) := by decide +kernel
set_option maxRecDepth 20000 in
theorem ggX4_part_X4_isWithin : GoodIn wsX4_part wsX4_isWithin := goodIn_r _ [15] (by decide +kernel) (by decide +kernel)
set_option maxRecDepth 20000 in
theorem gX4_part_X4_isWithin : GoodIn wsX4_part (va_wsS RX4 33 yX4_isWithin wsX4_isWithin) := goodIn_app (goodIn_of _ (by decide +kernel)) ggX4_part_X4_isWithin
set_option maxRecDepth 20000 in
theorem ggX4_part_X4_isMonth : GoodIn wsX4_part wsX4_isMonth := goodIn_r _ [18] (by decide +kernel) (by decide +kernel)
set_option maxRecDepth 20000 in
theorem gX4_part_X4_isMonth : GoodIn wsX4_part (va_wsS RX4 37 yX4_isMonth wsX4_isMonth) := goodIn_app (goodIn_of _ (by decide +kernel)) ggX4_part_X4_isMonth
set_option maxRecDepth 20000 in
theorem ggX4_part_X4_isRateOf : GoodIn wsX4_part wsX4_isRateOf := goodIn_r _ [21, 22, 12, 13, 14, 15] (by decide +kernel) (by decide +kernel)
set_option maxRecDepth 20000 in
theorem gX4_part_X4_isRateOf : GoodIn wsX4_part (va_wsS RX4 43 yX4_isRateOf wsX4_isRateOf) := goodIn_app (goodIn_of _ (by decide +kernel)) ggX4_part_X4_isRateOf
set_option maxRecDepth 20000 in
theorem ggX4_part_X2_init : GoodIn wsX4_part wsX2_init := goodIn_r _ [25, 26, 27, 28, 29, 30, 31, 32, 33, 34, 35, 36, 37, 38, 39, 40, 48, 49, 50, 51, 52, 53, 54, 55, 56, 57, 58] (by decide +kernel) (by decide +kernel)
set_option maxRecDepth 20000 in
theorem gX4_part_X2_init : GoodIn wsX4_part (wsX2_init) := ggX4_part_X2_init
theorem dX4_part_0 : decode cX4_part 0 = .ok (.lload_n 1, 1) := by decide +kernel
theorem dX4_part_1 : decode cX4_part 1 = .ok (.lconst 1, 1) := by decide +kernel
theorem dX4_part_2 : decode cX4_part 2 = .ok (.ldc2_w 31, 3) := by decide +kernel
theorem dX4_part_5 : decode cX4_part 5 = .ok (.invokestatic 33, 3) := by decide +kernel
theorem dX4_part_8 : decode cX4_part 8 = .ok (.ifCond .eq 16, 3) := by decide +kernel
theorem dX4_part_11 : decode cX4_part 11 = .ok (.lload_n 3, 1) := by decide +kernel
theorem dX4_part_12 : decode cX4_part 12 = .ok (.lconst 0, 1) := by decide +kernel
theorem dX4_part_13 : decode cX4_part 13 = .ok (.lload_n 1, 1) := by decide +kernel
theorem dX4_part_14 : decode cX4_part 14 = .ok (.invokestatic 33, 3) := by decide +kernel
theorem dX4_part_17 : decode cX4_part 17 = .ok (.ifCond .eq 7, 3) := by decide +kernel
theorem dX4_part_20 : decode cX4_part 20 = .ok (.iconst 1, 1) := by decide +kernel
theorem dX4_part_21 : decode cX4_part 21 = .ok (.goto 4, 3) := by decide +kernel
theorem dX4_part_24 : decode cX4_part 24 = .ok (.iconst 0, 1) := by decide +kernel
theorem dX4_part_25 : decode cX4_part 25 = .ok (.istore 9, 2) := by decide +kernel
theorem dX4_part_27 : decode cX4_part 27 = .ok (.iload 5, 2) := by decide +kernel
theorem dX4_part_29 : decode cX4_part 29 = .ok (.invokestatic 37, 3) := by decide +kernel
theorem dX4_part_32 : decode cX4_part 32 = .ok (.ifCond .eq 20, 3) := by decide +kernel
theorem dX4_part_35 : decode cX4_part 35 = .ok (.iload 6, 2) := by decide +kernel
theorem dX4_part_37 : decode cX4_part 37 = .ok (.i2l, 1) := by decide +kernel
theorem dX4_part_38 : decode cX4_part 38 = .ok (.lconst 1, 1) := by decide +kernel
theorem dX4_part_39 : decode cX4_part 39 = .ok (.ldc2_w 41, 3) := by decide +kernel
theorem dX4_part_42 : decode cX4_part 42 = .ok (.invokestatic 33, 3) := by decide +kernel
theorem dX4_part_45 : decode cX4_part 45 = .ok (.ifCond .eq 7, 3) := by decide +kernel
theorem dX4_part_48 : decode cX4_part 48 = .ok (.iconst 1, 1) := by decide +kernel
theorem dX4_part_49 : decode cX4_part 49 = .ok (.goto 4, 3) := by decide +kernel
theorem dX4_part_52 : decode cX4_part 52 = .ok (.iconst 0, 1) := by decide +kernel
theorem dX4_part_53 : decode cX4_part 53 = .ok (.istore 10, 2) := by decide +kernel
theorem dX4_part_55 : decode cX4_part 55 = .ok (.iload 9, 2) := by decide +kernel
theorem dX4_part_57 : decode cX4_part 57 = .ok (.ifCond .eq 18, 3) := by decide +kernel
theorem dX4_part_60 : decode cX4_part 60 = .ok (.iload 10, 2) := by decide +kernel
theorem dX4_part_62 : decode cX4_part 62 = .ok (.ifCond .eq 13, 3) := by decide +kernel
theorem dX4_part_65 : decode cX4_part 65 = .ok (.iload 7, 2) := by decide +kernel
theorem dX4_part_67 : decode cX4_part 67 = .ok (.iload 8, 2) := by decide +kernel
theorem dX4_part_69 : decode cX4_part 69 = .ok (.invokestatic 43, 3) := by decide +kernel
theorem dX4_part_72 : decode cX4_part 72 = .ok (.ifCond .ne 13, 3) := by decide +kernel
theorem dX4_part_75 : decode cX4_part 75 = .ok (.new 47, 3) := by decide +kernel
theorem dX4_part_78 : decode cX4_part 78 = .ok (.dup, 1) := by decide +kernel
theorem dX4_part_79 : decode cX4_part 79 = .ok (.ldc 49, 2) := by decide +kernel
theorem dX4_part_81 : decode cX4_part 81 = .ok (.invokespecial 51, 3) := by decide +kernel
theorem dX4_part_84 : decode cX4_part 84 = .ok (.athrow, 1) := by decide +kernel
theorem dX4_part_85 : decode cX4_part 85 = .ok (.aload_n 0, 1) := by decide +kernel
theorem dX4_part_86 : decode cX4_part 86 = .ok (.getfield 54, 3) := by decide +kernel
theorem dX4_part_89 : decode cX4_part 89 = .ok (.bipush 6, 2) := by decide +kernel
theorem dX4_part_91 : decode cX4_part 91 = .ok (.if_icmp .lt 13, 3) := by decide +kernel
theorem dX4_part_94 : decode cX4_part 94 = .ok (.new 58, 3) := by decide +kernel
theorem dX4_part_97 : decode cX4_part 97 = .ok (.dup, 1) := by decide +kernel
theorem dX4_part_98 : decode cX4_part 98 = .ok (.ldc 60, 2) := by decide +kernel
theorem dX4_part_100 : decode cX4_part 100 = .ok (.invokespecial 62, 3) := by decide +kernel
theorem dX4_part_103 : decode cX4_part 103 = .ok (.athrow, 1) := by decide +kernel
theorem dX4_part_104 : decode cX4_part 104 = .ok (.aload_n 0, 1) := by decide +kernel
theorem dX4_part_105 : decode cX4_part 105 = .ok (.getfield 11, 3) := by decide +kernel
theorem dX4_part_108 : decode cX4_part 108 = .ok (.aload_n 0, 1) := by decide +kernel
theorem dX4_part_109 : decode cX4_part 109 = .ok (.getfield 54, 3) := by decide +kernel
theorem dX4_part_112 : decode cX4_part 112 = .ok (.new 9, 3) := by decide +kernel
theorem dX4_part_115 : decode cX4_part 115 = .ok (.dup, 1) := by decide +kernel
theorem dX4_part_116 : decode cX4_part 116 = .ok (.lload_n 1, 1) := by decide +kernel
theorem dX4_part_117 : decode cX4_part 117 = .ok (.lload_n 3, 1) := by decide +kernel
theorem dX4_part_118 : decode cX4_part 118 = .ok (.iload 5, 2) := by decide +kernel
theorem dX4_part_120 : decode cX4_part 120 = .ok (.iload 6, 2) := by decide +kernel
theorem dX4_part_122 : decode cX4_part 122 = .ok (.iload 7, 2) := by decide +kernel
theorem dX4_part_124 : decode cX4_part 124 = .ok (.iload 8, 2) := by decide +kernel
theorem dX4_part_126 : decode cX4_part 126 = .ok (.invokespecial 63, 3) := by decide +kernel
theorem dX4_part_129 : decode cX4_part 129 = .ok (.aastore, 1) := by decide +kernel
theorem dX4_part_130 : decode cX4_part 130 = .ok (.aload_n 0, 1) := by decide +kernel
theorem dX4_part_131 : decode cX4_part 131 = .ok (.dup, 1) := by decide +kernel
theorem dX4_part_132 : decode cX4_part 132 = .ok (.getfield 54, 3) := by decide +kernel
theorem dX4_part_135 : decode cX4_part 135 = .ok (.iconst 1, 1) := by decide +kernel
theorem dX4_part_136 : decode cX4_part 136 = .ok (.iadd, 1) := by decide +kernel
theorem dX4_part_137 : decode cX4_part 137 = .ok (.putfield 54, 3) := by decide +kernel
theorem dX4_part_140 : decode cX4_part 140 = .ok (.aload_n 0, 1) := by decide +kernel
theorem dX4_part_141 : decode cX4_part 141 = .ok (.getfield 54, 3) := by decide +kernel
theorem dX4_part_144 : decode cX4_part 144 = .ok (.iconst 1, 1) := by decide +kernel
theorem dX4_part_145 : decode cX4_part 145 = .ok (.isub, 1) := by decide +kernel
theorem dX4_part_146 : decode cX4_part 146 = .ok (.ireturn, 1) := by decide +kernel
set_option maxRecDepth 20000 in
theorem ggX4_units_X4_partOf : GoodIn wsX4_units wsX4_partOf := goodIn_r _ [11, 12, 13, 162, 163, 164, 165, 166, 167, 168] (by decide +kernel) (by decide +kernel)
set_option maxRecDepth 20000 in
theorem gX4_units_X4_partOf : GoodIn wsX4_units (wsV RX4 66 RX4 yX4_partOf wsX4_partOf) := goodIn_app (goodIn_of _ (by decide +kernel)) ggX4_units_X4_partOf
set_option maxRecDepth 20000 in
theorem ggX4_units_X4_isMonth : GoodIn wsX4_units wsX4_isMonth := goodIn_r _ [16] (by decide +kernel) (by decide +kernel)
set_option maxRecDepth 20000 in
theorem gX4_units_X4_isMonth : GoodIn wsX4_units (va_wsS RX4 37 yX4_isMonth wsX4_isMonth) := goodIn_app (goodIn_of _ (by decide +kernel)) ggX4_units_X4_isMonth
set_option maxRecDepth 20000 in
theorem ggX4_units_X4_isWithin : GoodIn wsX4_units wsX4_isWithin := goodIn_r _ [19] (by decide +kernel) (by decide +kernel)
set_option maxRecDepth 20000 in
theorem gX4_units_X4_isWithin : GoodIn wsX4_units (va_wsS RX4 33 yX4_isWithin wsX4_isWithin) := goodIn_app (goodIn_of _ (by decide +kernel)) ggX4_units_X4_isWithin
set_option maxRecDepth 20000 in
theorem ggX4_units_X4_hasBreach : GoodIn wsX4_units wsX4_hasBreach := goodIn_r _ [23, 24, 25, 26, 27, 10, 28, 29, 30, 31, 32, 33, 6, 34, 35, 36, 37, 38, 39, 40, 41, 42, 43, 44, 45, 46, 47, 48, 49, 50, 51, 52, 53, 54, 55, 56, 57, 58, 59, 60, 61, 62, 63, 64, 65, 66, 67, 68, 69, 70, 71, 72, 73, 74, 75, 76, 77, 78, 79, 80, 81, 82, 83, 84, 85, 86, 87, 88, 89, 90, 91, 92, 93, 94, 95, 96, 97, 98, 99, 100, 101, 102, 103, 104, 105, 106, 107, 108, 109, 110, 111, 112, 113, 114, 115, 116, 117, 118, 119, 120, 121, 122, 123, 124, 125, 126, 127, 128, 129, 130, 131, 132, 133, 134, 135, 136, 137, 138, 139, 140, 141, 142, 143, 144, 145, 146, 147, 148, 149, 150, 162, 163, 164, 165, 166, 167, 168, 169, 170, 171, 172, 173, 174, 175, 176, 177, 178, 179, 180, 181, 182, 183, 151, 152, 153, 154, 155, 156, 157, 158, 159, 160, 161, 184, 185, 186, 187, 188, 189, 190, 191, 192, 193, 194] (by decide +kernel) (by decide +kernel)
set_option maxRecDepth 20000 in
theorem gX4_units_X4_hasBreach : GoodIn wsX4_units (wsV RX4 78 RX4 yX4_hasBreach wsX4_hasBreach) := goodIn_app (goodIn_of _ (by decide +kernel)) ggX4_units_X4_hasBreach
theorem dX4_units_0 : decode cX4_units 0 = .ok (.aload_n 0, 1) := by decide +kernel
theorem dX4_units_1 : decode cX4_units 1 = .ok (.iload_n 1, 1) := by decide +kernel
theorem dX4_units_2 : decode cX4_units 2 = .ok (.invokevirtual 66, 3) := by decide +kernel
theorem dX4_units_5 : decode cX4_units 5 = .ok (.astore 4, 2) := by decide +kernel
theorem dX4_units_7 : decode cX4_units 7 = .ok (.aload 4, 2) := by decide +kernel
theorem dX4_units_9 : decode cX4_units 9 = .ok (.ifnull 22, 3) := by decide +kernel
theorem dX4_units_12 : decode cX4_units 12 = .ok (.iload_n 2, 1) := by decide +kernel
theorem dX4_units_13 : decode cX4_units 13 = .ok (.invokestatic 37, 3) := by decide +kernel
theorem dX4_units_16 : decode cX4_units 16 = .ok (.ifCond .eq 15, 3) := by decide +kernel
theorem dX4_units_19 : decode cX4_units 19 = .ok (.iload_n 3, 1) := by decide +kernel
theorem dX4_units_20 : decode cX4_units 20 = .ok (.i2l, 1) := by decide +kernel
theorem dX4_units_21 : decode cX4_units 21 = .ok (.lconst 0, 1) := by decide +kernel
theorem dX4_units_22 : decode cX4_units 22 = .ok (.ldc2_w 70, 3) := by decide +kernel
theorem dX4_units_25 : decode cX4_units 25 = .ok (.invokestatic 33, 3) := by decide +kernel
theorem dX4_units_28 : decode cX4_units 28 = .ok (.ifCond .ne 13, 3) := by decide +kernel
theorem dX4_units_31 : decode cX4_units 31 = .ok (.new 47, 3) := by decide +kernel
theorem dX4_units_34 : decode cX4_units 34 = .ok (.dup, 1) := by decide +kernel
theorem dX4_units_35 : decode cX4_units 35 = .ok (.ldc 72, 2) := by decide +kernel
theorem dX4_units_37 : decode cX4_units 37 = .ok (.invokespecial 51, 3) := by decide +kernel
theorem dX4_units_40 : decode cX4_units 40 = .ok (.athrow, 1) := by decide +kernel
theorem dX4_units_41 : decode cX4_units 41 = .ok (.aload 4, 2) := by decide +kernel
theorem dX4_units_43 : decode cX4_units 43 = .ok (.getfield 74, 3) := by decide +kernel
theorem dX4_units_46 : decode cX4_units 46 = .ok (.iload_n 2, 1) := by decide +kernel
theorem dX4_units_47 : decode cX4_units 47 = .ok (.iaload, 1) := by decide +kernel
theorem dX4_units_48 : decode cX4_units 48 = .ok (.istore 5, 2) := by decide +kernel
theorem dX4_units_50 : decode cX4_units 50 = .ok (.aload 4, 2) := by decide +kernel
theorem dX4_units_52 : decode cX4_units 52 = .ok (.getfield 74, 3) := by decide +kernel
theorem dX4_units_55 : decode cX4_units 55 = .ok (.iload_n 2, 1) := by decide +kernel
theorem dX4_units_56 : decode cX4_units 56 = .ok (.iload_n 3, 1) := by decide +kernel
theorem dX4_units_57 : decode cX4_units 57 = .ok (.iastore, 1) := by decide +kernel
theorem dX4_units_58 : decode cX4_units 58 = .ok (.aload_n 0, 1) := by decide +kernel
theorem dX4_units_59 : decode cX4_units 59 = .ok (.aload 4, 2) := by decide +kernel
theorem dX4_units_61 : decode cX4_units 61 = .ok (.invokevirtual 78, 3) := by decide +kernel
theorem dX4_units_64 : decode cX4_units 64 = .ok (.ifCond .eq 22, 3) := by decide +kernel
theorem dX4_units_67 : decode cX4_units 67 = .ok (.aload 4, 2) := by decide +kernel
theorem dX4_units_69 : decode cX4_units 69 = .ok (.getfield 74, 3) := by decide +kernel
theorem dX4_units_72 : decode cX4_units 72 = .ok (.iload_n 2, 1) := by decide +kernel
theorem dX4_units_73 : decode cX4_units 73 = .ok (.iload 5, 2) := by decide +kernel
theorem dX4_units_75 : decode cX4_units 75 = .ok (.iastore, 1) := by decide +kernel
theorem dX4_units_76 : decode cX4_units 76 = .ok (.new 58, 3) := by decide +kernel
theorem dX4_units_79 : decode cX4_units 79 = .ok (.dup, 1) := by decide +kernel
theorem dX4_units_80 : decode cX4_units 80 = .ok (.ldc 82, 2) := by decide +kernel
theorem dX4_units_82 : decode cX4_units 82 = .ok (.invokespecial 62, 3) := by decide +kernel
theorem dX4_units_85 : decode cX4_units 85 = .ok (.athrow, 1) := by decide +kernel
theorem dX4_units_86 : decode cX4_units 86 = .ok (.iload 5, 2) := by decide +kernel
theorem dX4_units_88 : decode cX4_units 88 = .ok (.ireturn, 1) := by decide +kernel
set_option maxRecDepth 20000 in
theorem ggX4_event_X4_partOf : GoodIn wsX4_event wsX4_partOf := goodIn_r _ [17, 18, 19, 184, 185, 186, 187, 188, 189, 190] (by decide +kernel) (by decide +kernel)
set_option maxRecDepth 20000 in
theorem gX4_event_X4_partOf : GoodIn wsX4_event (wsV RX4 66 RX4 yX4_partOf wsX4_partOf) := goodIn_app (goodIn_of _ (by decide +kernel)) ggX4_event_X4_partOf
set_option maxRecDepth 20000 in
theorem ggX4_event_X4_isMonth : GoodIn wsX4_event wsX4_isMonth := goodIn_r _ [22] (by decide +kernel) (by decide +kernel)
set_option maxRecDepth 20000 in
theorem gX4_event_X4_isMonth : GoodIn wsX4_event (va_wsS RX4 37 yX4_isMonth wsX4_isMonth) := goodIn_app (goodIn_of _ (by decide +kernel)) ggX4_event_X4_isMonth
set_option maxRecDepth 20000 in
theorem ggX4_event_X4_isEvent : GoodIn wsX4_event wsX4_isEvent := goodIn_r _ [25, 26, 27, 28, 29, 30, 16, 31] (by decide +kernel) (by decide +kernel)
set_option maxRecDepth 20000 in
theorem gX4_event_X4_isEvent : GoodIn wsX4_event (va_wsS RX4 87 yX4_isEvent wsX4_isEvent) := goodIn_app (goodIn_of _ (by decide +kernel)) ggX4_event_X4_isEvent
set_option maxRecDepth 20000 in
theorem ggX4_event_X1_init : GoodIn wsX4_event wsX1_init := goodIn_r _ [34, 35, 36, 37, 38, 39, 40, 41, 42, 191, 192, 193, 194, 195] (by decide +kernel) (by decide +kernel)
set_option maxRecDepth 20000 in
theorem gX4_event_X1_init : GoodIn wsX4_event (wsX1_init) := ggX4_event_X1_init
set_option maxRecDepth 20000 in
theorem ggX4_event_X4_hasBreach : GoodIn wsX4_event wsX4_hasBreach := goodIn_r _ [46, 47, 48, 49, 50, 16, 51, 52, 5, 6, 53, 54, 55, 56, 57, 58, 59, 60, 61, 62, 63, 64, 65, 66, 67, 68, 69, 70, 71, 72, 73, 74, 75, 76, 77, 78, 79, 80, 81, 82, 83, 84, 85, 86, 87, 88, 89, 90, 91, 92, 93, 94, 95, 96, 97, 98, 99, 100, 101, 102, 103, 104, 105, 106, 107, 108, 109, 110, 111, 112, 113, 114, 115, 116, 117, 118, 119, 120, 121, 122, 123, 124, 125, 126, 127, 128, 129, 130, 131, 132, 133, 134, 135, 136, 137, 138, 139, 140, 141, 142, 143, 144, 145, 146, 147, 148, 149, 150, 151, 152, 153, 154, 155, 156, 157, 158, 159, 160, 161, 162, 163, 164, 165, 166, 167, 168, 169, 170, 171, 172, 184, 185, 186, 187, 188, 189, 190, 196, 197, 198, 199, 200, 201, 202, 203, 204, 205, 206, 207, 208, 209, 210, 173, 174, 175, 176, 177, 178, 179, 180, 181, 182, 183, 191, 192, 193, 194, 195, 211, 212, 213, 214, 215, 216] (by decide +kernel) (by decide +kernel)
set_option maxRecDepth 20000 in
theorem gX4_event_X4_hasBreach : GoodIn wsX4_event (wsV RX4 78 RX4 yX4_hasBreach wsX4_hasBreach) := goodIn_app (goodIn_of _ (by decide +kernel)) ggX4_event_X4_hasBreach
theorem dX4_event_0 : decode cX4_event 0 = .ok (.aload_n 0, 1) := by decide +kernel
theorem dX4_event_1 : decode cX4_event 1 = .ok (.iload_n 1, 1) := by decide +kernel
theorem dX4_event_2 : decode cX4_event 2 = .ok (.invokevirtual 66, 3) := by decide +kernel
theorem dX4_event_5 : decode cX4_event 5 = .ok (.astore 7, 2) := by decide +kernel
theorem dX4_event_7 : decode cX4_event 7 = .ok (.aload 7, 2) := by decide +kernel
theorem dX4_event_9 : decode cX4_event 9 = .ok (.ifnull 30, 3) := by decide +kernel
theorem dX4_event_12 : decode cX4_event 12 = .ok (.iload_n 2, 1) := by decide +kernel
theorem dX4_event_13 : decode cX4_event 13 = .ok (.invokestatic 37, 3) := by decide +kernel
theorem dX4_event_16 : decode cX4_event 16 = .ok (.ifCond .eq 23, 3) := by decide +kernel
theorem dX4_event_19 : decode cX4_event 19 = .ok (.iload_n 2, 1) := by decide +kernel
theorem dX4_event_20 : decode cX4_event 20 = .ok (.aload 7, 2) := by decide +kernel
theorem dX4_event_22 : decode cX4_event 22 = .ok (.getfield 84, 3) := by decide +kernel
theorem dX4_event_25 : decode cX4_event 25 = .ok (.if_icmp .lt 14, 3) := by decide +kernel
theorem dX4_event_28 : decode cX4_event 28 = .ok (.iload_n 3, 1) := by decide +kernel
theorem dX4_event_29 : decode cX4_event 29 = .ok (.lload 4, 2) := by decide +kernel
theorem dX4_event_31 : decode cX4_event 31 = .ok (.iload 6, 2) := by decide +kernel
theorem dX4_event_33 : decode cX4_event 33 = .ok (.invokestatic 87, 3) := by decide +kernel
theorem dX4_event_36 : decode cX4_event 36 = .ok (.ifCond .ne 13, 3) := by decide +kernel
theorem dX4_event_39 : decode cX4_event 39 = .ok (.new 47, 3) := by decide +kernel
theorem dX4_event_42 : decode cX4_event 42 = .ok (.dup, 1) := by decide +kernel
theorem dX4_event_43 : decode cX4_event 43 = .ok (.ldc 91, 2) := by decide +kernel
theorem dX4_event_45 : decode cX4_event 45 = .ok (.invokespecial 51, 3) := by decide +kernel
theorem dX4_event_48 : decode cX4_event 48 = .ok (.athrow, 1) := by decide +kernel
theorem dX4_event_49 : decode cX4_event 49 = .ok (.aload 7, 2) := by decide +kernel
theorem dX4_event_51 : decode cX4_event 51 = .ok (.getfield 93, 3) := by decide +kernel
theorem dX4_event_54 : decode cX4_event 54 = .ok (.iload_n 2, 1) := by decide +kernel
theorem dX4_event_55 : decode cX4_event 55 = .ok (.aaload, 1) := by decide +kernel
theorem dX4_event_56 : decode cX4_event 56 = .ok (.ifnonnull 22, 3) := by decide +kernel
theorem dX4_event_59 : decode cX4_event 59 = .ok (.aload 7, 2) := by decide +kernel
theorem dX4_event_61 : decode cX4_event 61 = .ok (.getfield 96, 3) := by decide +kernel
theorem dX4_event_64 : decode cX4_event 64 = .ok (.bipush 8, 2) := by decide +kernel
theorem dX4_event_66 : decode cX4_event 66 = .ok (.if_icmp .ge 12, 3) := by decide +kernel
theorem dX4_event_69 : decode cX4_event 69 = .ok (.aload_n 0, 1) := by decide +kernel
theorem dX4_event_70 : decode cX4_event 70 = .ok (.getfield 99, 3) := by decide +kernel
theorem dX4_event_73 : decode cX4_event 73 = .ok (.bipush 40, 2) := by decide +kernel
theorem dX4_event_75 : decode cX4_event 75 = .ok (.if_icmp .lt 13, 3) := by decide +kernel
theorem dX4_event_78 : decode cX4_event 78 = .ok (.new 58, 3) := by decide +kernel
theorem dX4_event_81 : decode cX4_event 81 = .ok (.dup, 1) := by decide +kernel
theorem dX4_event_82 : decode cX4_event 82 = .ok (.ldc 100, 2) := by decide +kernel
theorem dX4_event_84 : decode cX4_event 84 = .ok (.invokespecial 62, 3) := by decide +kernel
theorem dX4_event_87 : decode cX4_event 87 = .ok (.athrow, 1) := by decide +kernel
theorem dX4_event_88 : decode cX4_event 88 = .ok (.new 15, 3) := by decide +kernel
theorem dX4_event_91 : decode cX4_event 91 = .ok (.dup, 1) := by decide +kernel
theorem dX4_event_92 : decode cX4_event 92 = .ok (.iload_n 1, 1) := by decide +kernel
theorem dX4_event_93 : decode cX4_event 93 = .ok (.iload_n 2, 1) := by decide +kernel
theorem dX4_event_94 : decode cX4_event 94 = .ok (.iload_n 3, 1) := by decide +kernel
theorem dX4_event_95 : decode cX4_event 95 = .ok (.lload 4, 2) := by decide +kernel
theorem dX4_event_97 : decode cX4_event 97 = .ok (.iload 6, 2) := by decide +kernel
theorem dX4_event_99 : decode cX4_event 99 = .ok (.invokespecial 102, 3) := by decide +kernel
theorem dX4_event_102 : decode cX4_event 102 = .ok (.astore 8, 2) := by decide +kernel
theorem dX4_event_104 : decode cX4_event 104 = .ok (.aload 7, 2) := by decide +kernel
theorem dX4_event_106 : decode cX4_event 106 = .ok (.getfield 93, 3) := by decide +kernel
theorem dX4_event_109 : decode cX4_event 109 = .ok (.iload_n 2, 1) := by decide +kernel
theorem dX4_event_110 : decode cX4_event 110 = .ok (.aload 8, 2) := by decide +kernel
theorem dX4_event_112 : decode cX4_event 112 = .ok (.aastore, 1) := by decide +kernel
theorem dX4_event_113 : decode cX4_event 113 = .ok (.aload_n 0, 1) := by decide +kernel
theorem dX4_event_114 : decode cX4_event 114 = .ok (.aload 7, 2) := by decide +kernel
theorem dX4_event_116 : decode cX4_event 116 = .ok (.invokevirtual 78, 3) := by decide +kernel
theorem dX4_event_119 : decode cX4_event 119 = .ok (.ifCond .eq 21, 3) := by decide +kernel
theorem dX4_event_122 : decode cX4_event 122 = .ok (.aload 7, 2) := by decide +kernel
theorem dX4_event_124 : decode cX4_event 124 = .ok (.getfield 93, 3) := by decide +kernel
theorem dX4_event_127 : decode cX4_event 127 = .ok (.iload_n 2, 1) := by decide +kernel
theorem dX4_event_128 : decode cX4_event 128 = .ok (.aconst_null, 1) := by decide +kernel
theorem dX4_event_129 : decode cX4_event 129 = .ok (.aastore, 1) := by decide +kernel
theorem dX4_event_130 : decode cX4_event 130 = .ok (.new 58, 3) := by decide +kernel
theorem dX4_event_133 : decode cX4_event 133 = .ok (.dup, 1) := by decide +kernel
theorem dX4_event_134 : decode cX4_event 134 = .ok (.ldc 105, 2) := by decide +kernel
theorem dX4_event_136 : decode cX4_event 136 = .ok (.invokespecial 62, 3) := by decide +kernel
theorem dX4_event_139 : decode cX4_event 139 = .ok (.athrow, 1) := by decide +kernel
theorem dX4_event_140 : decode cX4_event 140 = .ok (.aload 7, 2) := by decide +kernel
theorem dX4_event_142 : decode cX4_event 142 = .ok (.dup, 1) := by decide +kernel
theorem dX4_event_143 : decode cX4_event 143 = .ok (.getfield 96, 3) := by decide +kernel
theorem dX4_event_146 : decode cX4_event 146 = .ok (.iconst 1, 1) := by decide +kernel
theorem dX4_event_147 : decode cX4_event 147 = .ok (.iadd, 1) := by decide +kernel
theorem dX4_event_148 : decode cX4_event 148 = .ok (.putfield 96, 3) := by decide +kernel
theorem dX4_event_151 : decode cX4_event 151 = .ok (.aload_n 0, 1) := by decide +kernel
theorem dX4_event_152 : decode cX4_event 152 = .ok (.getfield 17, 3) := by decide +kernel
theorem dX4_event_155 : decode cX4_event 155 = .ok (.aload_n 0, 1) := by decide +kernel
theorem dX4_event_156 : decode cX4_event 156 = .ok (.getfield 99, 3) := by decide +kernel
theorem dX4_event_159 : decode cX4_event 159 = .ok (.aload 8, 2) := by decide +kernel
theorem dX4_event_161 : decode cX4_event 161 = .ok (.aastore, 1) := by decide +kernel
theorem dX4_event_162 : decode cX4_event 162 = .ok (.aload_n 0, 1) := by decide +kernel
theorem dX4_event_163 : decode cX4_event 163 = .ok (.dup, 1) := by decide +kernel
theorem dX4_event_164 : decode cX4_event 164 = .ok (.getfield 99, 3) := by decide +kernel
theorem dX4_event_167 : decode cX4_event 167 = .ok (.iconst 1, 1) := by decide +kernel
theorem dX4_event_168 : decode cX4_event 168 = .ok (.iadd, 1) := by decide +kernel
theorem dX4_event_169 : decode cX4_event 169 = .ok (.putfield 99, 3) := by decide +kernel
theorem dX4_event_172 : decode cX4_event 172 = .ok (.aload_n 0, 1) := by decide +kernel
theorem dX4_event_173 : decode cX4_event 173 = .ok (.getfield 99, 3) := by decide +kernel
theorem dX4_event_176 : decode cX4_event 176 = .ok (.iconst 1, 1) := by decide +kernel
theorem dX4_event_177 : decode cX4_event 177 = .ok (.isub, 1) := by decide +kernel
theorem dX4_event_178 : decode cX4_event 178 = .ok (.ireturn, 1) := by decide +kernel
set_option maxRecDepth 20000 in
theorem ggX4_strike_X4_eventOf : GoodIn wsX4_strike wsX4_eventOf := goodIn_r _ [10, 11, 5, 165, 166, 167, 168, 169, 170, 171] (by decide +kernel) (by decide +kernel)
set_option maxRecDepth 20000 in
theorem gX4_strike_X4_eventOf : GoodIn wsX4_strike (wsV RX4 107 RX4 yX4_eventOf wsX4_eventOf) := goodIn_app (goodIn_of _ (by decide +kernel)) ggX4_strike_X4_eventOf
set_option maxRecDepth 20000 in
theorem ggX4_strike_X4_partOf : GoodIn wsX4_strike wsX4_partOf := goodIn_r _ [15, 16, 17, 165, 166, 167, 168, 169, 170, 171] (by decide +kernel) (by decide +kernel)
set_option maxRecDepth 20000 in
theorem gX4_strike_X4_partOf : GoodIn wsX4_strike (wsV RX4 66 RX4 yX4_partOf wsX4_partOf) := goodIn_app (goodIn_of _ (by decide +kernel)) ggX4_strike_X4_partOf
set_option maxRecDepth 20000 in
theorem ggX4_strike_X4_hasBreach : GoodIn wsX4_strike wsX4_hasBreach := goodIn_r _ [21, 22, 23, 24, 25, 9, 26, 27, 28, 2, 29, 30, 31, 32, 33, 34, 35, 36, 37, 38, 39, 40, 41, 42, 43, 44, 45, 46, 47, 48, 49, 50, 51, 52, 53, 54, 55, 56, 57, 58, 59, 60, 61, 62, 63, 64, 65, 66, 67, 68, 69, 70, 71, 72, 73, 74, 75, 76, 77, 78, 79, 80, 81, 82, 83, 84, 85, 86, 87, 88, 89, 90, 91, 92, 93, 94, 95, 96, 97, 98, 99, 100, 101, 102, 103, 104, 105, 106, 107, 108, 109, 110, 111, 112, 113, 114, 115, 116, 117, 118, 119, 120, 121, 122, 123, 124, 125, 126, 127, 128, 129, 130, 131, 132, 133, 134, 135, 136, 137, 138, 139, 140, 141, 142, 143, 144, 145, 146, 147, 148, 165, 166, 167, 168, 169, 170, 171, 172, 173, 174, 175, 176, 177, 178, 179, 180, 181, 182, 183, 184, 185, 186, 154, 155, 156, 157, 158, 159, 160, 161, 162, 163, 164, 149, 150, 151, 152, 153, 187, 188, 189, 190, 191, 192] (by decide +kernel) (by decide +kernel)
set_option maxRecDepth 20000 in
theorem gX4_strike_X4_hasBreach : GoodIn wsX4_strike (wsV RX4 78 RX4 yX4_hasBreach wsX4_hasBreach) := goodIn_app (goodIn_of _ (by decide +kernel)) ggX4_strike_X4_hasBreach
theorem dX4_strike_0 : decode cX4_strike 0 = .ok (.aload_n 0, 1) := by decide +kernel
theorem dX4_strike_1 : decode cX4_strike 1 = .ok (.iload_n 1, 1) := by decide +kernel
theorem dX4_strike_2 : decode cX4_strike 2 = .ok (.invokevirtual 107, 3) := by decide +kernel
theorem dX4_strike_5 : decode cX4_strike 5 = .ok (.astore_n 2, 1) := by decide +kernel
theorem dX4_strike_6 : decode cX4_strike 6 = .ok (.aload_n 2, 1) := by decide +kernel
theorem dX4_strike_7 : decode cX4_strike 7 = .ok (.ifnonnull 5, 3) := by decide +kernel
theorem dX4_strike_10 : decode cX4_strike 10 = .ok (.iconst 0, 1) := by decide +kernel
theorem dX4_strike_11 : decode cX4_strike 11 = .ok (.ireturn, 1) := by decide +kernel
theorem dX4_strike_12 : decode cX4_strike 12 = .ok (.aload_n 0, 1) := by decide +kernel
theorem dX4_strike_13 : decode cX4_strike 13 = .ok (.aload_n 2, 1) := by decide +kernel
theorem dX4_strike_14 : decode cX4_strike 14 = .ok (.getfield 111, 3) := by decide +kernel
theorem dX4_strike_17 : decode cX4_strike 17 = .ok (.invokevirtual 66, 3) := by decide +kernel
theorem dX4_strike_20 : decode cX4_strike 20 = .ok (.astore_n 3, 1) := by decide +kernel
theorem dX4_strike_21 : decode cX4_strike 21 = .ok (.aload_n 3, 1) := by decide +kernel
theorem dX4_strike_22 : decode cX4_strike 22 = .ok (.ifnonnull 5, 3) := by decide +kernel
theorem dX4_strike_25 : decode cX4_strike 25 = .ok (.iconst 0, 1) := by decide +kernel
theorem dX4_strike_26 : decode cX4_strike 26 = .ok (.ireturn, 1) := by decide +kernel
theorem dX4_strike_27 : decode cX4_strike 27 = .ok (.aload_n 3, 1) := by decide +kernel
theorem dX4_strike_28 : decode cX4_strike 28 = .ok (.getfield 93, 3) := by decide +kernel
theorem dX4_strike_31 : decode cX4_strike 31 = .ok (.aload_n 2, 1) := by decide +kernel
theorem dX4_strike_32 : decode cX4_strike 32 = .ok (.getfield 114, 3) := by decide +kernel
theorem dX4_strike_35 : decode cX4_strike 35 = .ok (.aconst_null, 1) := by decide +kernel
theorem dX4_strike_36 : decode cX4_strike 36 = .ok (.aastore, 1) := by decide +kernel
theorem dX4_strike_37 : decode cX4_strike 37 = .ok (.aload_n 0, 1) := by decide +kernel
theorem dX4_strike_38 : decode cX4_strike 38 = .ok (.aload_n 3, 1) := by decide +kernel
theorem dX4_strike_39 : decode cX4_strike 39 = .ok (.invokevirtual 78, 3) := by decide +kernel
theorem dX4_strike_42 : decode cX4_strike 42 = .ok (.ifCond .eq 15, 3) := by decide +kernel
theorem dX4_strike_45 : decode cX4_strike 45 = .ok (.aload_n 3, 1) := by decide +kernel
theorem dX4_strike_46 : decode cX4_strike 46 = .ok (.getfield 93, 3) := by decide +kernel
theorem dX4_strike_49 : decode cX4_strike 49 = .ok (.aload_n 2, 1) := by decide +kernel
theorem dX4_strike_50 : decode cX4_strike 50 = .ok (.getfield 114, 3) := by decide +kernel
theorem dX4_strike_53 : decode cX4_strike 53 = .ok (.aload_n 2, 1) := by decide +kernel
theorem dX4_strike_54 : decode cX4_strike 54 = .ok (.aastore, 1) := by decide +kernel
theorem dX4_strike_55 : decode cX4_strike 55 = .ok (.iconst 0, 1) := by decide +kernel
theorem dX4_strike_56 : decode cX4_strike 56 = .ok (.ireturn, 1) := by decide +kernel
theorem dX4_strike_57 : decode cX4_strike 57 = .ok (.aload_n 3, 1) := by decide +kernel
theorem dX4_strike_58 : decode cX4_strike 58 = .ok (.dup, 1) := by decide +kernel
theorem dX4_strike_59 : decode cX4_strike 59 = .ok (.getfield 96, 3) := by decide +kernel
theorem dX4_strike_62 : decode cX4_strike 62 = .ok (.iconst 1, 1) := by decide +kernel
theorem dX4_strike_63 : decode cX4_strike 63 = .ok (.isub, 1) := by decide +kernel
theorem dX4_strike_64 : decode cX4_strike 64 = .ok (.putfield 96, 3) := by decide +kernel
theorem dX4_strike_67 : decode cX4_strike 67 = .ok (.aload_n 0, 1) := by decide +kernel
theorem dX4_strike_68 : decode cX4_strike 68 = .ok (.getfield 17, 3) := by decide +kernel
theorem dX4_strike_71 : decode cX4_strike 71 = .ok (.iload_n 1, 1) := by decide +kernel
theorem dX4_strike_72 : decode cX4_strike 72 = .ok (.aconst_null, 1) := by decide +kernel
theorem dX4_strike_73 : decode cX4_strike 73 = .ok (.aastore, 1) := by decide +kernel
theorem dX4_strike_74 : decode cX4_strike 74 = .ok (.iconst 1, 1) := by decide +kernel
theorem dX4_strike_75 : decode cX4_strike 75 = .ok (.ireturn, 1) := by decide +kernel
set_option maxRecDepth 20000 in
theorem ggX4_told_X4_eventOf : GoodIn wsX4_told wsX4_eventOf := goodIn_r _ [9, 10, 11, 17, 18, 19, 20, 21, 22, 23] (by decide +kernel) (by decide +kernel)
set_option maxRecDepth 20000 in
theorem gX4_told_X4_eventOf : GoodIn wsX4_told (wsV RX4 107 RX4 yX4_eventOf wsX4_eventOf) := goodIn_app (goodIn_of _ (by decide +kernel)) ggX4_told_X4_eventOf
theorem dX4_told_0 : decode cX4_told 0 = .ok (.aload_n 0, 1) := by decide +kernel
theorem dX4_told_1 : decode cX4_told 1 = .ok (.iload_n 1, 1) := by decide +kernel
theorem dX4_told_2 : decode cX4_told 2 = .ok (.invokevirtual 107, 3) := by decide +kernel
theorem dX4_told_5 : decode cX4_told 5 = .ok (.astore_n 3, 1) := by decide +kernel
theorem dX4_told_6 : decode cX4_told 6 = .ok (.aload_n 3, 1) := by decide +kernel
theorem dX4_told_7 : decode cX4_told 7 = .ok (.ifnonnull 5, 3) := by decide +kernel
theorem dX4_told_10 : decode cX4_told 10 = .ok (.iconst (-1), 1) := by decide +kernel
theorem dX4_told_11 : decode cX4_told 11 = .ok (.ireturn, 1) := by decide +kernel
theorem dX4_told_12 : decode cX4_told 12 = .ok (.iload_n 2, 1) := by decide +kernel
theorem dX4_told_13 : decode cX4_told 13 = .ok (.tableswitch 51 0 3 #[31, 36, 41, 46], 31) := by decide +kernel
theorem dX4_told_44 : decode cX4_told 44 = .ok (.aload_n 3, 1) := by decide +kernel
theorem dX4_told_45 : decode cX4_told 45 = .ok (.getfield 111, 3) := by decide +kernel
theorem dX4_told_48 : decode cX4_told 48 = .ok (.ireturn, 1) := by decide +kernel
theorem dX4_told_49 : decode cX4_told 49 = .ok (.aload_n 3, 1) := by decide +kernel
theorem dX4_told_50 : decode cX4_told 50 = .ok (.getfield 114, 3) := by decide +kernel
theorem dX4_told_53 : decode cX4_told 53 = .ok (.ireturn, 1) := by decide +kernel
theorem dX4_told_54 : decode cX4_told 54 = .ok (.aload_n 3, 1) := by decide +kernel
theorem dX4_told_55 : decode cX4_told 55 = .ok (.getfield 117, 3) := by decide +kernel
theorem dX4_told_58 : decode cX4_told 58 = .ok (.ireturn, 1) := by decide +kernel
theorem dX4_told_59 : decode cX4_told 59 = .ok (.aload_n 3, 1) := by decide +kernel
theorem dX4_told_60 : decode cX4_told 60 = .ok (.getfield 120, 3) := by decide +kernel
theorem dX4_told_63 : decode cX4_told 63 = .ok (.ireturn, 1) := by decide +kernel
theorem dX4_told_64 : decode cX4_told 64 = .ok (.iconst (-1), 1) := by decide +kernel
theorem dX4_told_65 : decode cX4_told 65 = .ok (.ireturn, 1) := by decide +kernel
set_option maxRecDepth 20000 in
theorem ggX4_value_X4_partOf : GoodIn wsX4_value wsX4_partOf := goodIn_r _ [10, 11, 12, 157, 158, 159, 160, 161, 162, 163] (by decide +kernel) (by decide +kernel)
set_option maxRecDepth 20000 in
theorem gX4_value_X4_partOf : GoodIn wsX4_value (wsV RX4 66 RX4 yX4_partOf wsX4_partOf) := goodIn_app (goodIn_of _ (by decide +kernel)) ggX4_value_X4_partOf
set_option maxRecDepth 20000 in
theorem ggX4_value_X4_isMonth : GoodIn wsX4_value wsX4_isMonth := goodIn_r _ [15] (by decide +kernel) (by decide +kernel)
set_option maxRecDepth 20000 in
theorem gX4_value_X4_isMonth : GoodIn wsX4_value (va_wsS RX4 37 yX4_isMonth wsX4_isMonth) := goodIn_app (goodIn_of _ (by decide +kernel)) ggX4_value_X4_isMonth
set_option maxRecDepth 20000 in
theorem ggX4_value_X4_isWithin : GoodIn wsX4_value wsX4_isWithin := goodIn_r _ [18] (by decide +kernel) (by decide +kernel)
set_option maxRecDepth 20000 in
theorem gX4_value_X4_isWithin : GoodIn wsX4_value (va_wsS RX4 33 yX4_isWithin wsX4_isWithin) := goodIn_app (goodIn_of _ (by decide +kernel)) ggX4_value_X4_isWithin
set_option maxRecDepth 20000 in
theorem ggX4_value_X4_follow : GoodIn wsX4_value wsX4_follow := goodIn_r _ [22, 5, 23, 4, 24, 25, 26, 27, 28, 29, 30, 31, 32, 33, 34, 35, 36, 37, 38, 39, 40, 41, 42, 43, 44, 45, 46, 47, 48, 49, 50, 51, 52, 53, 54, 55, 56, 57, 58, 59, 60, 61, 62, 63, 64, 65, 66, 67, 68, 69, 70, 71, 72, 73, 74, 75, 76, 77, 78, 79, 80, 81, 82, 83, 84, 85, 86, 87, 88, 89, 90, 91, 92, 93, 94, 95, 96, 97, 98, 99, 100, 101, 102, 103, 104, 105, 106, 107, 108, 109, 110, 111, 112, 113, 114, 115, 116, 117, 118, 119, 120, 121, 9, 122, 123, 124, 125, 126, 127, 128, 129, 130, 131, 132, 133, 134, 135, 136, 137, 138, 139, 140, 141, 142, 143, 144, 157, 158, 159, 160, 161, 162, 163, 146, 147, 148, 149, 150, 151, 152, 153, 154, 155, 156, 179, 180, 181, 182, 183, 164, 165, 166, 167, 168, 169, 170, 171, 172, 173, 174, 175, 176, 177, 178, 184, 185, 186, 187, 188, 189] (by decide +kernel) (by decide +kernel)
set_option maxRecDepth 20000 in
theorem gX4_value_X4_follow : GoodIn wsX4_value (wsV RX4 127 RX4 yX4_follow wsX4_follow) := goodIn_app (goodIn_of _ (by decide +kernel)) ggX4_value_X4_follow
set_option maxRecDepth 20000 in
theorem ggX4_value_X0_book : GoodIn wsX4_value wsX0_book := goodIn_r _ [64, 38, 39, 164, 165, 166, 167, 168, 169, 170, 171, 172, 173, 174, 175, 176, 177, 178] (by decide +kernel) (by decide +kernel)
set_option maxRecDepth 20000 in
theorem gX4_value_X0_book : GoodIn wsX4_value (wsV RX4 138 RX0 yX0_book wsX0_book) := goodIn_app (goodIn_of _ (by decide +kernel)) ggX4_value_X0_book
theorem dX4_value_0 : decode cX4_value 0 = .ok (.aload_n 0, 1) := by decide +kernel
theorem dX4_value_1 : decode cX4_value 1 = .ok (.iload_n 1, 1) := by decide +kernel
theorem dX4_value_2 : decode cX4_value 2 = .ok (.invokevirtual 66, 3) := by decide +kernel
theorem dX4_value_5 : decode cX4_value 5 = .ok (.astore 4, 2) := by decide +kernel
theorem dX4_value_7 : decode cX4_value 7 = .ok (.aload 4, 2) := by decide +kernel
theorem dX4_value_9 : decode cX4_value 9 = .ok (.ifnull 22, 3) := by decide +kernel
theorem dX4_value_12 : decode cX4_value 12 = .ok (.iload_n 2, 1) := by decide +kernel
theorem dX4_value_13 : decode cX4_value 13 = .ok (.invokestatic 37, 3) := by decide +kernel
theorem dX4_value_16 : decode cX4_value 16 = .ok (.ifCond .eq 15, 3) := by decide +kernel
theorem dX4_value_19 : decode cX4_value 19 = .ok (.iload_n 3, 1) := by decide +kernel
theorem dX4_value_20 : decode cX4_value 20 = .ok (.i2l, 1) := by decide +kernel
theorem dX4_value_21 : decode cX4_value 21 = .ok (.lconst 0, 1) := by decide +kernel
theorem dX4_value_22 : decode cX4_value 22 = .ok (.ldc2_w 123, 3) := by decide +kernel
theorem dX4_value_25 : decode cX4_value 25 = .ok (.invokestatic 33, 3) := by decide +kernel
theorem dX4_value_28 : decode cX4_value 28 = .ok (.ifCond .ne 13, 3) := by decide +kernel
theorem dX4_value_31 : decode cX4_value 31 = .ok (.new 47, 3) := by decide +kernel
theorem dX4_value_34 : decode cX4_value 34 = .ok (.dup, 1) := by decide +kernel
theorem dX4_value_35 : decode cX4_value 35 = .ok (.ldc 125, 2) := by decide +kernel
theorem dX4_value_37 : decode cX4_value 37 = .ok (.invokespecial 51, 3) := by decide +kernel
theorem dX4_value_40 : decode cX4_value 40 = .ok (.athrow, 1) := by decide +kernel
theorem dX4_value_41 : decode cX4_value 41 = .ok (.iload_n 2, 1) := by decide +kernel
theorem dX4_value_42 : decode cX4_value 42 = .ok (.aload 4, 2) := by decide +kernel
theorem dX4_value_44 : decode cX4_value 44 = .ok (.getfield 84, 3) := by decide +kernel
theorem dX4_value_47 : decode cX4_value 47 = .ok (.if_icmp .ge 5, 3) := by decide +kernel
theorem dX4_value_50 : decode cX4_value 50 = .ok (.lconst 0, 1) := by decide +kernel
theorem dX4_value_51 : decode cX4_value 51 = .ok (.lreturn, 1) := by decide +kernel
theorem dX4_value_52 : decode cX4_value 52 = .ok (.aload_n 0, 1) := by decide +kernel
theorem dX4_value_53 : decode cX4_value 53 = .ok (.aload 4, 2) := by decide +kernel
theorem dX4_value_55 : decode cX4_value 55 = .ok (.iload_n 2, 1) := by decide +kernel
theorem dX4_value_56 : decode cX4_value 56 = .ok (.invokevirtual 127, 3) := by decide +kernel
theorem dX4_value_59 : decode cX4_value 59 = .ok (.iload_n 3, 1) := by decide +kernel
theorem dX4_value_60 : decode cX4_value 60 = .ok (.tableswitch 88 0 5 #[40, 48, 56, 64, 72, 80], 40) := by decide +kernel
theorem dX4_value_100 : decode cX4_value 100 = .ok (.aload_n 0, 1) := by decide +kernel
theorem dX4_value_101 : decode cX4_value 101 = .ok (.getfield 24, 3) := by decide +kernel
theorem dX4_value_104 : decode cX4_value 104 = .ok (.getfield 131, 3) := by decide +kernel
theorem dX4_value_107 : decode cX4_value 107 = .ok (.lreturn, 1) := by decide +kernel
theorem dX4_value_108 : decode cX4_value 108 = .ok (.aload_n 0, 1) := by decide +kernel
theorem dX4_value_109 : decode cX4_value 109 = .ok (.getfield 24, 3) := by decide +kernel
theorem dX4_value_112 : decode cX4_value 112 = .ok (.getfield 135, 3) := by decide +kernel
theorem dX4_value_115 : decode cX4_value 115 = .ok (.lreturn, 1) := by decide +kernel
theorem dX4_value_116 : decode cX4_value 116 = .ok (.aload_n 0, 1) := by decide +kernel
theorem dX4_value_117 : decode cX4_value 117 = .ok (.getfield 24, 3) := by decide +kernel
theorem dX4_value_120 : decode cX4_value 120 = .ok (.invokevirtual 138, 3) := by decide +kernel
theorem dX4_value_123 : decode cX4_value 123 = .ok (.lreturn, 1) := by decide +kernel
theorem dX4_value_124 : decode cX4_value 124 = .ok (.aload_n 0, 1) := by decide +kernel
theorem dX4_value_125 : decode cX4_value 125 = .ok (.getfield 24, 3) := by decide +kernel
theorem dX4_value_128 : decode cX4_value 128 = .ok (.getfield 142, 3) := by decide +kernel
theorem dX4_value_131 : decode cX4_value 131 = .ok (.lreturn, 1) := by decide +kernel
theorem dX4_value_132 : decode cX4_value 132 = .ok (.aload_n 0, 1) := by decide +kernel
theorem dX4_value_133 : decode cX4_value 133 = .ok (.getfield 24, 3) := by decide +kernel
theorem dX4_value_136 : decode cX4_value 136 = .ok (.getfield 145, 3) := by decide +kernel
theorem dX4_value_139 : decode cX4_value 139 = .ok (.lreturn, 1) := by decide +kernel
theorem dX4_value_140 : decode cX4_value 140 = .ok (.aload_n 0, 1) := by decide +kernel
theorem dX4_value_141 : decode cX4_value 141 = .ok (.getfield 24, 3) := by decide +kernel
theorem dX4_value_144 : decode cX4_value 144 = .ok (.getfield 148, 3) := by decide +kernel
theorem dX4_value_147 : decode cX4_value 147 = .ok (.lreturn, 1) := by decide +kernel
theorem dX4_value_148 : decode cX4_value 148 = .ok (.aload_n 0, 1) := by decide +kernel
theorem dX4_value_149 : decode cX4_value 149 = .ok (.getfield 24, 3) := by decide +kernel
theorem dX4_value_152 : decode cX4_value 152 = .ok (.getfield 151, 3) := by decide +kernel
theorem dX4_value_155 : decode cX4_value 155 = .ok (.i2l, 1) := by decide +kernel
theorem dX4_value_156 : decode cX4_value 156 = .ok (.lreturn, 1) := by decide +kernel
set_option maxRecDepth 20000 in
theorem ggX4_charge_X4_partOf : GoodIn wsX4_charge wsX4_partOf := goodIn_r _ [9, 10, 11, 152, 153, 154, 155, 156, 157, 158] (by decide +kernel) (by decide +kernel)
set_option maxRecDepth 20000 in
theorem gX4_charge_X4_partOf : GoodIn wsX4_charge (wsV RX4 66 RX4 yX4_partOf wsX4_partOf) := goodIn_app (goodIn_of _ (by decide +kernel)) ggX4_charge_X4_partOf
set_option maxRecDepth 20000 in
theorem ggX4_charge_X4_isMonth : GoodIn wsX4_charge wsX4_isMonth := goodIn_r _ [14] (by decide +kernel) (by decide +kernel)
set_option maxRecDepth 20000 in
theorem gX4_charge_X4_isMonth : GoodIn wsX4_charge (va_wsS RX4 37 yX4_isMonth wsX4_isMonth) := goodIn_app (goodIn_of _ (by decide +kernel)) ggX4_charge_X4_isMonth
set_option maxRecDepth 20000 in
theorem ggX4_charge_X4_follow : GoodIn wsX4_charge wsX4_follow := goodIn_r _ [18, 4, 19, 3, 20, 21, 22, 23, 24, 25, 26, 27, 28, 29, 30, 31, 32, 33, 34, 35, 36, 37, 38, 39, 40, 41, 42, 43, 44, 45, 46, 47, 48, 49, 50, 51, 52, 53, 54, 55, 56, 57, 58, 59, 60, 61, 62, 63, 64, 65, 66, 67, 68, 69, 70, 71, 72, 73, 74, 75, 76, 77, 78, 79, 80, 81, 82, 83, 84, 85, 86, 87, 88, 89, 90, 91, 92, 93, 94, 95, 96, 97, 98, 99, 100, 101, 102, 103, 104, 105, 106, 107, 108, 109, 110, 111, 112, 113, 114, 115, 116, 117, 8, 118, 119, 120, 121, 122, 123, 124, 125, 126, 127, 128, 129, 130, 131, 132, 133, 134, 135, 136, 137, 138, 139, 140, 152, 153, 154, 155, 156, 157, 158, 141, 142, 143, 144, 145, 146, 147, 148, 149, 150, 151, 174, 175, 176, 177, 178, 159, 160, 161, 162, 163, 164, 165, 166, 167, 168, 169, 170, 171, 172, 173, 179, 180, 181, 182, 183, 184] (by decide +kernel) (by decide +kernel)
set_option maxRecDepth 20000 in
theorem gX4_charge_X4_follow : GoodIn wsX4_charge (wsV RX4 127 RX4 yX4_follow wsX4_follow) := goodIn_app (goodIn_of _ (by decide +kernel)) ggX4_charge_X4_follow
theorem dX4_charge_0 : decode cX4_charge 0 = .ok (.aload_n 0, 1) := by decide +kernel
theorem dX4_charge_1 : decode cX4_charge 1 = .ok (.iload_n 1, 1) := by decide +kernel
theorem dX4_charge_2 : decode cX4_charge 2 = .ok (.invokevirtual 66, 3) := by decide +kernel
theorem dX4_charge_5 : decode cX4_charge 5 = .ok (.astore_n 3, 1) := by decide +kernel
theorem dX4_charge_6 : decode cX4_charge 6 = .ok (.aload_n 3, 1) := by decide +kernel
theorem dX4_charge_7 : decode cX4_charge 7 = .ok (.ifnull 10, 3) := by decide +kernel
theorem dX4_charge_10 : decode cX4_charge 10 = .ok (.iload_n 2, 1) := by decide +kernel
theorem dX4_charge_11 : decode cX4_charge 11 = .ok (.invokestatic 37, 3) := by decide +kernel
theorem dX4_charge_14 : decode cX4_charge 14 = .ok (.ifCond .ne 13, 3) := by decide +kernel
theorem dX4_charge_17 : decode cX4_charge 17 = .ok (.new 47, 3) := by decide +kernel
theorem dX4_charge_20 : decode cX4_charge 20 = .ok (.dup, 1) := by decide +kernel
theorem dX4_charge_21 : decode cX4_charge 21 = .ok (.ldc 154, 2) := by decide +kernel
theorem dX4_charge_23 : decode cX4_charge 23 = .ok (.invokespecial 51, 3) := by decide +kernel
theorem dX4_charge_26 : decode cX4_charge 26 = .ok (.athrow, 1) := by decide +kernel
theorem dX4_charge_27 : decode cX4_charge 27 = .ok (.iload_n 2, 1) := by decide +kernel
theorem dX4_charge_28 : decode cX4_charge 28 = .ok (.aload_n 3, 1) := by decide +kernel
theorem dX4_charge_29 : decode cX4_charge 29 = .ok (.getfield 84, 3) := by decide +kernel
theorem dX4_charge_32 : decode cX4_charge 32 = .ok (.if_icmp .ge 5, 3) := by decide +kernel
theorem dX4_charge_35 : decode cX4_charge 35 = .ok (.lconst 0, 1) := by decide +kernel
theorem dX4_charge_36 : decode cX4_charge 36 = .ok (.lreturn, 1) := by decide +kernel
theorem dX4_charge_37 : decode cX4_charge 37 = .ok (.aload_n 0, 1) := by decide +kernel
theorem dX4_charge_38 : decode cX4_charge 38 = .ok (.aload_n 3, 1) := by decide +kernel
theorem dX4_charge_39 : decode cX4_charge 39 = .ok (.iload_n 2, 1) := by decide +kernel
theorem dX4_charge_40 : decode cX4_charge 40 = .ok (.invokevirtual 127, 3) := by decide +kernel
theorem dX4_charge_43 : decode cX4_charge 43 = .ok (.aload_n 0, 1) := by decide +kernel
theorem dX4_charge_44 : decode cX4_charge 44 = .ok (.getfield 24, 3) := by decide +kernel
theorem dX4_charge_47 : decode cX4_charge 47 = .ok (.getfield 156, 3) := by decide +kernel
theorem dX4_charge_50 : decode cX4_charge 50 = .ok (.lreturn, 1) := by decide +kernel
set_option maxRecDepth 20000 in
theorem ggX4_without_X4_partOf : GoodIn wsX4_without wsX4_partOf := goodIn_r _ [9, 10, 11, 152, 153, 154, 155, 156, 157, 158] (by decide +kernel) (by decide +kernel)
set_option maxRecDepth 20000 in
theorem gX4_without_X4_partOf : GoodIn wsX4_without (wsV RX4 66 RX4 yX4_partOf wsX4_partOf) := goodIn_app (goodIn_of _ (by decide +kernel)) ggX4_without_X4_partOf
set_option maxRecDepth 20000 in
theorem ggX4_without_X4_isMonth : GoodIn wsX4_without wsX4_isMonth := goodIn_r _ [14] (by decide +kernel) (by decide +kernel)
set_option maxRecDepth 20000 in
theorem gX4_without_X4_isMonth : GoodIn wsX4_without (va_wsS RX4 37 yX4_isMonth wsX4_isMonth) := goodIn_app (goodIn_of _ (by decide +kernel)) ggX4_without_X4_isMonth
set_option maxRecDepth 20000 in
theorem ggX4_without_X4_follow : GoodIn wsX4_without wsX4_follow := goodIn_r _ [18, 19, 4, 3, 20, 21, 22, 23, 24, 25, 26, 27, 28, 29, 30, 31, 32, 33, 34, 35, 36, 37, 38, 39, 40, 41, 42, 43, 44, 45, 46, 47, 48, 49, 50, 51, 52, 53, 54, 55, 56, 57, 58, 59, 60, 61, 62, 63, 64, 65, 66, 67, 68, 69, 70, 71, 72, 73, 74, 75, 76, 77, 78, 79, 80, 81, 82, 83, 84, 85, 86, 87, 88, 89, 90, 91, 92, 93, 94, 95, 96, 97, 98, 99, 100, 101, 102, 103, 104, 105, 106, 107, 108, 109, 110, 111, 112, 113, 114, 115, 116, 117, 8, 118, 119, 120, 121, 122, 123, 124, 125, 126, 127, 128, 129, 130, 131, 132, 133, 134, 135, 136, 137, 138, 139, 140, 152, 153, 154, 155, 156, 157, 158, 141, 142, 143, 144, 145, 146, 147, 148, 149, 150, 151, 159, 160, 161, 162, 163, 164, 165, 166, 167, 168, 169, 170, 171, 172, 173, 174, 175, 176, 177, 178, 179, 180, 181, 182, 183, 184] (by decide +kernel) (by decide +kernel)
set_option maxRecDepth 20000 in
theorem gX4_without_X4_follow : GoodIn wsX4_without (wsV RX4 127 RX4 yX4_follow wsX4_follow) := goodIn_app (goodIn_of _ (by decide +kernel)) ggX4_without_X4_follow
set_option maxRecDepth 20000 in
theorem ggX4_without_X0_bookOrNone : GoodIn wsX4_without wsX0_bookOrNone := goodIn_r _ [75, 44, 76, 57, 58, 59, 27, 60, 34, 35, 164, 165, 166, 167, 168, 169, 170, 171, 172, 173, 174, 175, 176, 177, 178] (by decide +kernel) (by decide +kernel)
set_option maxRecDepth 20000 in
theorem gX4_without_X0_bookOrNone : GoodIn wsX4_without (wsV RX4 159 RX0 yX0_bookOrNone wsX0_bookOrNone) := goodIn_app (goodIn_of _ (by decide +kernel)) ggX4_without_X0_bookOrNone
theorem dX4_without_0 : decode cX4_without 0 = .ok (.aload_n 0, 1) := by decide +kernel
theorem dX4_without_1 : decode cX4_without 1 = .ok (.iload_n 1, 1) := by decide +kernel
theorem dX4_without_2 : decode cX4_without 2 = .ok (.invokevirtual 66, 3) := by decide +kernel
theorem dX4_without_5 : decode cX4_without 5 = .ok (.astore_n 3, 1) := by decide +kernel
theorem dX4_without_6 : decode cX4_without 6 = .ok (.aload_n 3, 1) := by decide +kernel
theorem dX4_without_7 : decode cX4_without 7 = .ok (.ifnull 10, 3) := by decide +kernel
theorem dX4_without_10 : decode cX4_without 10 = .ok (.iload_n 2, 1) := by decide +kernel
theorem dX4_without_11 : decode cX4_without 11 = .ok (.invokestatic 37, 3) := by decide +kernel
theorem dX4_without_14 : decode cX4_without 14 = .ok (.ifCond .ne 13, 3) := by decide +kernel
theorem dX4_without_17 : decode cX4_without 17 = .ok (.new 47, 3) := by decide +kernel
theorem dX4_without_20 : decode cX4_without 20 = .ok (.dup, 1) := by decide +kernel
theorem dX4_without_21 : decode cX4_without 21 = .ok (.ldc 154, 2) := by decide +kernel
theorem dX4_without_23 : decode cX4_without 23 = .ok (.invokespecial 51, 3) := by decide +kernel
theorem dX4_without_26 : decode cX4_without 26 = .ok (.athrow, 1) := by decide +kernel
theorem dX4_without_27 : decode cX4_without 27 = .ok (.iload_n 2, 1) := by decide +kernel
theorem dX4_without_28 : decode cX4_without 28 = .ok (.aload_n 3, 1) := by decide +kernel
theorem dX4_without_29 : decode cX4_without 29 = .ok (.getfield 84, 3) := by decide +kernel
theorem dX4_without_32 : decode cX4_without 32 = .ok (.if_icmp .ge 5, 3) := by decide +kernel
theorem dX4_without_35 : decode cX4_without 35 = .ok (.lconst 0, 1) := by decide +kernel
theorem dX4_without_36 : decode cX4_without 36 = .ok (.lreturn, 1) := by decide +kernel
theorem dX4_without_37 : decode cX4_without 37 = .ok (.aload_n 0, 1) := by decide +kernel
theorem dX4_without_38 : decode cX4_without 38 = .ok (.aload_n 3, 1) := by decide +kernel
theorem dX4_without_39 : decode cX4_without 39 = .ok (.iload_n 2, 1) := by decide +kernel
theorem dX4_without_40 : decode cX4_without 40 = .ok (.invokevirtual 127, 3) := by decide +kernel
theorem dX4_without_43 : decode cX4_without 43 = .ok (.aload_n 0, 1) := by decide +kernel
theorem dX4_without_44 : decode cX4_without 44 = .ok (.getfield 28, 3) := by decide +kernel
theorem dX4_without_47 : decode cX4_without 47 = .ok (.invokevirtual 159, 3) := by decide +kernel
theorem dX4_without_50 : decode cX4_without 50 = .ok (.lreturn, 1) := by decide +kernel
set_option maxRecDepth 20000 in
theorem ggX4_post_X4_partOf : GoodIn wsX4_post wsX4_partOf := goodIn_r _ [13, 4, 14, 141, 142, 143, 144, 145, 146, 147] (by decide +kernel) (by decide +kernel)
set_option maxRecDepth 20000 in
theorem gX4_post_X4_partOf : GoodIn wsX4_post (wsV RX4 66 RX4 yX4_partOf wsX4_partOf) := goodIn_app (goodIn_of _ (by decide +kernel)) ggX4_post_X4_partOf
set_option maxRecDepth 20000 in
theorem ggX4_post_X4_follow : GoodIn wsX4_post wsX4_follow := goodIn_r _ [18, 7, 19, 5, 20, 21, 22, 23, 24, 25, 26, 27, 28, 29, 30, 31, 32, 33, 34, 35, 36, 37, 38, 39, 40, 41, 42, 43, 44, 45, 46, 47, 48, 49, 50, 51, 52, 53, 54, 55, 56, 57, 58, 59, 60, 61, 62, 63, 64, 65, 66, 67, 68, 69, 70, 71, 72, 73, 74, 75, 76, 77, 78, 79, 80, 81, 82, 83, 84, 85, 86, 87, 88, 89, 90, 91, 92, 93, 94, 95, 96, 97, 98, 99, 100, 101, 102, 103, 104, 105, 106, 107, 108, 109, 110, 111, 112, 113, 114, 115, 116, 117, 12, 118, 119, 120, 121, 122, 123, 124, 125, 126, 127, 128, 129, 130, 131, 132, 133, 134, 135, 136, 137, 138, 139, 140, 141, 142, 143, 144, 145, 146, 147, 148, 149, 150, 151, 152, 153, 154, 155, 156, 157, 158, 174, 175, 176, 177, 178, 159, 160, 161, 162, 163, 164, 165, 166, 167, 168, 169, 170, 171, 172, 173, 179, 180, 181, 182, 183, 184] (by decide +kernel) (by decide +kernel)
set_option maxRecDepth 20000 in
theorem gX4_post_X4_follow : GoodIn wsX4_post (wsV RX4 127 RX4 yX4_follow wsX4_follow) := goodIn_app (goodIn_of _ (by decide +kernel)) ggX4_post_X4_follow
theorem dX4_post_0 : decode cX4_post 0 = .ok (.aload_n 0, 1) := by decide +kernel
theorem dX4_post_1 : decode cX4_post 1 = .ok (.getfield 162, 3) := by decide +kernel
theorem dX4_post_4 : decode cX4_post 4 = .ok (.bipush 36, 2) := by decide +kernel
theorem dX4_post_6 : decode cX4_post 6 = .ok (.if_icmp .lt 13, 3) := by decide +kernel
theorem dX4_post_9 : decode cX4_post 9 = .ok (.new 58, 3) := by decide +kernel
theorem dX4_post_12 : decode cX4_post 12 = .ok (.dup, 1) := by decide +kernel
theorem dX4_post_13 : decode cX4_post 13 = .ok (.ldc 165, 2) := by decide +kernel
theorem dX4_post_15 : decode cX4_post 15 = .ok (.invokespecial 62, 3) := by decide +kernel
theorem dX4_post_18 : decode cX4_post 18 = .ok (.athrow, 1) := by decide +kernel
theorem dX4_post_19 : decode cX4_post 19 = .ok (.aload_n 0, 1) := by decide +kernel
theorem dX4_post_20 : decode cX4_post 20 = .ok (.getfield 162, 3) := by decide +kernel
theorem dX4_post_23 : decode cX4_post 23 = .ok (.istore_n 1, 1) := by decide +kernel
theorem dX4_post_24 : decode cX4_post 24 = .ok (.aload_n 0, 1) := by decide +kernel
theorem dX4_post_25 : decode cX4_post 25 = .ok (.dup, 1) := by decide +kernel
theorem dX4_post_26 : decode cX4_post 26 = .ok (.getfield 162, 3) := by decide +kernel
theorem dX4_post_29 : decode cX4_post 29 = .ok (.iconst 1, 1) := by decide +kernel
theorem dX4_post_30 : decode cX4_post 30 = .ok (.iadd, 1) := by decide +kernel
theorem dX4_post_31 : decode cX4_post 31 = .ok (.putfield 162, 3) := by decide +kernel
theorem dX4_post_34 : decode cX4_post 34 = .ok (.lconst 0, 1) := by decide +kernel
theorem dX4_post_35 : decode cX4_post 35 = .ok (.lstore_n 2, 1) := by decide +kernel
theorem dX4_post_36 : decode cX4_post 36 = .ok (.iconst 0, 1) := by decide +kernel
theorem dX4_post_37 : decode cX4_post 37 = .ok (.istore 4, 2) := by decide +kernel
theorem dX4_post_39 : decode cX4_post 39 = .ok (.iload 4, 2) := by decide +kernel
theorem dX4_post_41 : decode cX4_post 41 = .ok (.aload_n 0, 1) := by decide +kernel
theorem dX4_post_42 : decode cX4_post 42 = .ok (.getfield 54, 3) := by decide +kernel
theorem dX4_post_45 : decode cX4_post 45 = .ok (.if_icmp .ge 80, 3) := by decide +kernel
theorem dX4_post_48 : decode cX4_post 48 = .ok (.aload_n 0, 1) := by decide +kernel
theorem dX4_post_49 : decode cX4_post 49 = .ok (.iload 4, 2) := by decide +kernel
theorem dX4_post_51 : decode cX4_post 51 = .ok (.invokevirtual 66, 3) := by decide +kernel
theorem dX4_post_54 : decode cX4_post 54 = .ok (.astore 5, 2) := by decide +kernel
theorem dX4_post_56 : decode cX4_post 56 = .ok (.aload 5, 2) := by decide +kernel
theorem dX4_post_58 : decode cX4_post 58 = .ok (.ifnull 61, 3) := by decide +kernel
theorem dX4_post_61 : decode cX4_post 61 = .ok (.aload 5, 2) := by decide +kernel
theorem dX4_post_63 : decode cX4_post 63 = .ok (.getfield 84, 3) := by decide +kernel
theorem dX4_post_66 : decode cX4_post 66 = .ok (.iload_n 1, 1) := by decide +kernel
theorem dX4_post_67 : decode cX4_post 67 = .ok (.if_icmp .gt 52, 3) := by decide +kernel
theorem dX4_post_70 : decode cX4_post 70 = .ok (.aload_n 0, 1) := by decide +kernel
theorem dX4_post_71 : decode cX4_post 71 = .ok (.aload 5, 2) := by decide +kernel
theorem dX4_post_73 : decode cX4_post 73 = .ok (.iload_n 1, 1) := by decide +kernel
theorem dX4_post_74 : decode cX4_post 74 = .ok (.invokevirtual 127, 3) := by decide +kernel
theorem dX4_post_77 : decode cX4_post 77 = .ok (.aload 5, 2) := by decide +kernel
theorem dX4_post_79 : decode cX4_post 79 = .ok (.getfield 167, 3) := by decide +kernel
theorem dX4_post_82 : decode cX4_post 82 = .ok (.iload_n 1, 1) := by decide +kernel
theorem dX4_post_83 : decode cX4_post 83 = .ok (.aload_n 0, 1) := by decide +kernel
theorem dX4_post_84 : decode cX4_post 84 = .ok (.getfield 24, 3) := by decide +kernel
theorem dX4_post_87 : decode cX4_post 87 = .ok (.getfield 171, 3) := by decide +kernel
theorem dX4_post_90 : decode cX4_post 90 = .ok (.aload 5, 2) := by decide +kernel
theorem dX4_post_92 : decode cX4_post 92 = .ok (.getfield 174, 3) := by decide +kernel
theorem dX4_post_95 : decode cX4_post 95 = .ok (.lsub, 1) := by decide +kernel
theorem dX4_post_96 : decode cX4_post 96 = .ok (.lastore, 1) := by decide +kernel
theorem dX4_post_97 : decode cX4_post 97 = .ok (.aload 5, 2) := by decide +kernel
theorem dX4_post_99 : decode cX4_post 99 = .ok (.aload_n 0, 1) := by decide +kernel
theorem dX4_post_100 : decode cX4_post 100 = .ok (.getfield 24, 3) := by decide +kernel
theorem dX4_post_103 : decode cX4_post 103 = .ok (.getfield 171, 3) := by decide +kernel
theorem dX4_post_106 : decode cX4_post 106 = .ok (.putfield 174, 3) := by decide +kernel
theorem dX4_post_109 : decode cX4_post 109 = .ok (.lload_n 2, 1) := by decide +kernel
theorem dX4_post_110 : decode cX4_post 110 = .ok (.aload 5, 2) := by decide +kernel
theorem dX4_post_112 : decode cX4_post 112 = .ok (.getfield 167, 3) := by decide +kernel
theorem dX4_post_115 : decode cX4_post 115 = .ok (.iload_n 1, 1) := by decide +kernel
theorem dX4_post_116 : decode cX4_post 116 = .ok (.laload, 1) := by decide +kernel
theorem dX4_post_117 : decode cX4_post 117 = .ok (.ladd, 1) := by decide +kernel
theorem dX4_post_118 : decode cX4_post 118 = .ok (.lstore_n 2, 1) := by decide +kernel
theorem dX4_post_119 : decode cX4_post 119 = .ok (.iinc 4 1, 3) := by decide +kernel
theorem dX4_post_122 : decode cX4_post 122 = .ok (.goto (-83), 3) := by decide +kernel
theorem dX4_post_125 : decode cX4_post 125 = .ok (.lload_n 2, 1) := by decide +kernel
theorem dX4_post_126 : decode cX4_post 126 = .ok (.lreturn, 1) := by decide +kernel
theorem dX4_months_0 : decode cX4_months 0 = .ok (.aload_n 0, 1) := by decide +kernel
theorem dX4_months_1 : decode cX4_months 1 = .ok (.getfield 162, 3) := by decide +kernel
theorem dX4_months_4 : decode cX4_months 4 = .ok (.ireturn, 1) := by decide +kernel
set_option maxRecDepth 20000 in
theorem ggX4_posted_X4_partOf : GoodIn wsX4_posted wsX4_partOf := goodIn_r _ [8, 9, 10, 25, 26, 27, 28, 29, 30, 31] (by decide +kernel) (by decide +kernel)
set_option maxRecDepth 20000 in
theorem gX4_posted_X4_partOf : GoodIn wsX4_posted (wsV RX4 66 RX4 yX4_partOf wsX4_partOf) := goodIn_app (goodIn_of _ (by decide +kernel)) ggX4_posted_X4_partOf
set_option maxRecDepth 20000 in
theorem ggX4_posted_X4_isMonth : GoodIn wsX4_posted wsX4_isMonth := goodIn_r _ [13] (by decide +kernel) (by decide +kernel)
set_option maxRecDepth 20000 in
theorem gX4_posted_X4_isMonth : GoodIn wsX4_posted (va_wsS RX4 37 yX4_isMonth wsX4_isMonth) := goodIn_app (goodIn_of _ (by decide +kernel)) ggX4_posted_X4_isMonth
theorem dX4_posted_0 : decode cX4_posted 0 = .ok (.aload_n 0, 1) := by decide +kernel
theorem dX4_posted_1 : decode cX4_posted 1 = .ok (.iload_n 1, 1) := by decide +kernel
theorem dX4_posted_2 : decode cX4_posted 2 = .ok (.invokevirtual 66, 3) := by decide +kernel
theorem dX4_posted_5 : decode cX4_posted 5 = .ok (.astore_n 3, 1) := by decide +kernel
theorem dX4_posted_6 : decode cX4_posted 6 = .ok (.aload_n 3, 1) := by decide +kernel
theorem dX4_posted_7 : decode cX4_posted 7 = .ok (.ifnull 10, 3) := by decide +kernel
theorem dX4_posted_10 : decode cX4_posted 10 = .ok (.iload_n 2, 1) := by decide +kernel
theorem dX4_posted_11 : decode cX4_posted 11 = .ok (.invokestatic 37, 3) := by decide +kernel
theorem dX4_posted_14 : decode cX4_posted 14 = .ok (.ifCond .ne 13, 3) := by decide +kernel
theorem dX4_posted_17 : decode cX4_posted 17 = .ok (.new 47, 3) := by decide +kernel
theorem dX4_posted_20 : decode cX4_posted 20 = .ok (.dup, 1) := by decide +kernel
theorem dX4_posted_21 : decode cX4_posted 21 = .ok (.ldc 154, 2) := by decide +kernel
theorem dX4_posted_23 : decode cX4_posted 23 = .ok (.invokespecial 51, 3) := by decide +kernel
theorem dX4_posted_26 : decode cX4_posted 26 = .ok (.athrow, 1) := by decide +kernel
theorem dX4_posted_27 : decode cX4_posted 27 = .ok (.aload_n 3, 1) := by decide +kernel
theorem dX4_posted_28 : decode cX4_posted 28 = .ok (.getfield 167, 3) := by decide +kernel
theorem dX4_posted_31 : decode cX4_posted 31 = .ok (.iload_n 2, 1) := by decide +kernel
theorem dX4_posted_32 : decode cX4_posted 32 = .ok (.laload, 1) := by decide +kernel
theorem dX4_posted_33 : decode cX4_posted 33 = .ok (.lreturn, 1) := by decide +kernel
set_option maxRecDepth 20000 in
theorem ggX4_total_X4_partOf : GoodIn wsX4_total wsX4_partOf := goodIn_r _ [8, 9, 10, 22, 23, 24, 25, 26, 27, 28] (by decide +kernel) (by decide +kernel)
set_option maxRecDepth 20000 in
theorem gX4_total_X4_partOf : GoodIn wsX4_total (wsV RX4 66 RX4 yX4_partOf wsX4_partOf) := goodIn_app (goodIn_of _ (by decide +kernel)) ggX4_total_X4_partOf
theorem dX4_total_0 : decode cX4_total 0 = .ok (.aload_n 0, 1) := by decide +kernel
theorem dX4_total_1 : decode cX4_total 1 = .ok (.iload_n 1, 1) := by decide +kernel
theorem dX4_total_2 : decode cX4_total 2 = .ok (.invokevirtual 66, 3) := by decide +kernel
theorem dX4_total_5 : decode cX4_total 5 = .ok (.astore_n 2, 1) := by decide +kernel
theorem dX4_total_6 : decode cX4_total 6 = .ok (.aload_n 2, 1) := by decide +kernel
theorem dX4_total_7 : decode cX4_total 7 = .ok (.ifnonnull 13, 3) := by decide +kernel
theorem dX4_total_10 : decode cX4_total 10 = .ok (.new 47, 3) := by decide +kernel
theorem dX4_total_13 : decode cX4_total 13 = .ok (.dup, 1) := by decide +kernel
theorem dX4_total_14 : decode cX4_total 14 = .ok (.ldc 177, 2) := by decide +kernel
theorem dX4_total_16 : decode cX4_total 16 = .ok (.invokespecial 51, 3) := by decide +kernel
theorem dX4_total_19 : decode cX4_total 19 = .ok (.athrow, 1) := by decide +kernel
theorem dX4_total_20 : decode cX4_total 20 = .ok (.aload_n 2, 1) := by decide +kernel
theorem dX4_total_21 : decode cX4_total 21 = .ok (.getfield 174, 3) := by decide +kernel
theorem dX4_total_24 : decode cX4_total 24 = .ok (.lreturn, 1) := by decide +kernel
theorem dX4_parts_0 : decode cX4_parts 0 = .ok (.aload_n 0, 1) := by decide +kernel
theorem dX4_parts_1 : decode cX4_parts 1 = .ok (.getfield 54, 3) := by decide +kernel
theorem dX4_parts_4 : decode cX4_parts 4 = .ok (.ireturn, 1) := by decide +kernel
theorem dX4_partOf_0 : decode cX4_partOf 0 = .ok (.iload_n 1, 1) := by decide +kernel
theorem dX4_partOf_1 : decode cX4_partOf 1 = .ok (.ifCond .lt 20, 3) := by decide +kernel
theorem dX4_partOf_4 : decode cX4_partOf 4 = .ok (.iload_n 1, 1) := by decide +kernel
theorem dX4_partOf_5 : decode cX4_partOf 5 = .ok (.aload_n 0, 1) := by decide +kernel
theorem dX4_partOf_6 : decode cX4_partOf 6 = .ok (.getfield 54, 3) := by decide +kernel
theorem dX4_partOf_9 : decode cX4_partOf 9 = .ok (.if_icmp .ge 12, 3) := by decide +kernel
theorem dX4_partOf_12 : decode cX4_partOf 12 = .ok (.aload_n 0, 1) := by decide +kernel
theorem dX4_partOf_13 : decode cX4_partOf 13 = .ok (.getfield 11, 3) := by decide +kernel
theorem dX4_partOf_16 : decode cX4_partOf 16 = .ok (.iload_n 1, 1) := by decide +kernel
theorem dX4_partOf_17 : decode cX4_partOf 17 = .ok (.aaload, 1) := by decide +kernel
theorem dX4_partOf_18 : decode cX4_partOf 18 = .ok (.goto 4, 3) := by decide +kernel
theorem dX4_partOf_21 : decode cX4_partOf 21 = .ok (.aconst_null, 1) := by decide +kernel
theorem dX4_partOf_22 : decode cX4_partOf 22 = .ok (.areturn, 1) := by decide +kernel
theorem dX4_eventOf_0 : decode cX4_eventOf 0 = .ok (.iload_n 1, 1) := by decide +kernel
theorem dX4_eventOf_1 : decode cX4_eventOf 1 = .ok (.ifCond .lt 20, 3) := by decide +kernel
theorem dX4_eventOf_4 : decode cX4_eventOf 4 = .ok (.iload_n 1, 1) := by decide +kernel
theorem dX4_eventOf_5 : decode cX4_eventOf 5 = .ok (.aload_n 0, 1) := by decide +kernel
theorem dX4_eventOf_6 : decode cX4_eventOf 6 = .ok (.getfield 99, 3) := by decide +kernel
theorem dX4_eventOf_9 : decode cX4_eventOf 9 = .ok (.if_icmp .ge 12, 3) := by decide +kernel
theorem dX4_eventOf_12 : decode cX4_eventOf 12 = .ok (.aload_n 0, 1) := by decide +kernel
theorem dX4_eventOf_13 : decode cX4_eventOf 13 = .ok (.getfield 17, 3) := by decide +kernel
theorem dX4_eventOf_16 : decode cX4_eventOf 16 = .ok (.iload_n 1, 1) := by decide +kernel
theorem dX4_eventOf_17 : decode cX4_eventOf 17 = .ok (.aaload, 1) := by decide +kernel
theorem dX4_eventOf_18 : decode cX4_eventOf 18 = .ok (.goto 4, 3) := by decide +kernel
theorem dX4_eventOf_21 : decode cX4_eventOf 21 = .ok (.aconst_null, 1) := by decide +kernel
theorem dX4_eventOf_22 : decode cX4_eventOf 22 = .ok (.areturn, 1) := by decide +kernel
set_option maxRecDepth 20000 in
theorem ggX4_hasBreach_X4_follow : GoodIn wsX4_hasBreach wsX4_follow := goodIn_r _ [6, 1, 7, 8, 9, 10, 11, 12, 13, 14, 15, 16, 17, 18, 19, 20, 21, 22, 23, 24, 25, 26, 27, 28, 29, 30, 31, 32, 33, 34, 35, 36, 37, 38, 39, 40, 41, 42, 43, 44, 45, 46, 47, 48, 49, 50, 51, 52, 53, 54, 55, 56, 57, 58, 59, 60, 61, 62, 63, 64, 65, 66, 67, 68, 69, 70, 71, 72, 73, 74, 75, 76, 77, 78, 79, 80, 81, 82, 83, 84, 85, 86, 87, 88, 89, 90, 91, 92, 93, 94, 95, 96, 97, 98, 99, 100, 101, 102, 103, 104, 105, 106, 5, 107, 108, 109, 110, 111, 112, 113, 114, 115, 116, 117, 118, 119, 120, 121, 122, 123, 124, 125, 126, 127, 128, 129, 130, 131, 132, 133, 134, 135, 136, 152, 153, 154, 155, 156, 157, 158, 159, 160, 161, 162, 163, 164, 165, 166, 167, 137, 138, 139, 140, 141, 142, 143, 144, 145, 146, 147, 148, 149, 150, 151, 168, 169, 170, 171, 172, 173] (by decide +kernel) (by decide +kernel)
set_option maxRecDepth 20000 in
theorem gX4_hasBreach_X4_follow : GoodIn wsX4_hasBreach (wsV RX4 127 RX4 yX4_follow wsX4_follow) := goodIn_app (goodIn_of _ (by decide +kernel)) ggX4_hasBreach_X4_follow
theorem dX4_hasBreach_0 : decode cX4_hasBreach 0 = .ok (.aload_n 0, 1) := by decide +kernel
theorem dX4_hasBreach_1 : decode cX4_hasBreach 1 = .ok (.aload_n 1, 1) := by decide +kernel
theorem dX4_hasBreach_2 : decode cX4_hasBreach 2 = .ok (.bipush 35, 2) := by decide +kernel
theorem dX4_hasBreach_4 : decode cX4_hasBreach 4 = .ok (.invokevirtual 127, 3) := by decide +kernel
theorem dX4_hasBreach_7 : decode cX4_hasBreach 7 = .ok (.aload_n 0, 1) := by decide +kernel
theorem dX4_hasBreach_8 : decode cX4_hasBreach 8 = .ok (.getfield 24, 3) := by decide +kernel
theorem dX4_hasBreach_11 : decode cX4_hasBreach 11 = .ok (.getfield 179, 3) := by decide +kernel
theorem dX4_hasBreach_14 : decode cX4_hasBreach 14 = .ok (.ireturn, 1) := by decide +kernel
set_option maxRecDepth 20000 in
theorem ggX4_follow_X0_open : GoodIn wsX4_follow wsX0_open := goodIn_r _ [12, 13, 14, 15, 16, 17, 18, 19, 20, 21, 22, 23, 24, 25, 26, 27, 28, 29, 30, 31, 32, 33, 34, 11, 35, 36, 37, 38, 39, 40, 41, 42, 43, 44, 45, 46, 47, 48, 49, 50, 51, 52, 53, 54, 55, 133, 134, 135, 136, 137, 138, 139, 140, 141, 142, 143, 149, 150, 151, 152, 153, 154, 155, 156, 157, 158, 159, 160, 161, 162, 163, 164, 165, 166, 167, 168, 169] (by decide +kernel) (by decide +kernel)
set_option maxRecDepth 20000 in
theorem gX4_follow_X0_open : GoodIn wsX4_follow (wsV RX4 183 RX0 yX0_open wsX0_open) := goodIn_app (goodIn_of _ (by decide +kernel)) ggX4_follow_X0_open
set_option maxRecDepth 20000 in
theorem ggX4_follow_X0_bookOrNone : GoodIn wsX4_follow wsX0_bookOrNone := goodIn_r _ [59, 28, 60, 41, 42, 43, 11, 44, 18, 19, 149, 150, 151, 152, 153, 154, 155, 156, 157, 158, 159, 160, 161, 162, 163] (by decide +kernel) (by decide +kernel)
set_option maxRecDepth 20000 in
theorem gX4_follow_X0_bookOrNone : GoodIn wsX4_follow (wsV RX4 159 RX0 yX0_bookOrNone wsX0_bookOrNone) := goodIn_app (goodIn_of _ (by decide +kernel)) ggX4_follow_X0_bookOrNone
set_option maxRecDepth 20000 in
theorem ggX4_follow_X0_meet : GoodIn wsX4_follow wsX0_meet := goodIn_r _ [64, 28, 65, 66, 67, 68, 11, 69, 27, 26, 25, 23, 70, 19, 41, 42, 43, 44, 18, 71, 72, 73, 74, 75, 76, 77, 78, 79, 20, 80, 81, 82, 83, 84, 85, 39, 86, 21, 87, 88, 89, 90, 91, 92, 93, 94, 95, 96, 97, 98, 99, 100, 101, 102, 103, 104, 32, 33, 34, 35, 36, 37, 38, 40, 16, 29, 45, 46, 47, 48, 49, 50, 51, 52, 53, 54, 55, 149, 150, 151, 152, 153, 154, 155, 156, 157, 158, 159, 160, 161, 162, 163, 144, 145, 146, 147, 148, 164, 165, 166, 167, 168, 169] (by decide +kernel) (by decide +kernel)
set_option maxRecDepth 20000 in
theorem gX4_follow_X0_meet : GoodIn wsX4_follow (wsV RX4 187 RX0 yX0_meet wsX0_meet) := goodIn_app (goodIn_of _ (by decide +kernel)) ggX4_follow_X0_meet
set_option maxRecDepth 20000 in
theorem ggX4_follow_X0_chargeMonth : GoodIn wsX4_follow wsX0_chargeMonth := goodIn_r _ [108, 30, 26, 27, 25, 14, 36, 29, 19, 31, 109, 110, 111, 11, 112, 23, 16, 99, 37, 38, 39, 40, 84, 85, 86, 41, 42, 43, 44, 18, 101, 102, 103, 104, 113, 114, 115, 48, 116, 53, 54, 55, 117, 118, 119, 120, 50, 51, 52, 121, 122, 123, 124, 125, 149, 150, 151, 152, 153, 154, 155, 156, 157, 158, 159, 160, 161, 162, 163, 164, 165, 166, 167, 168, 169] (by decide +kernel) (by decide +kernel)
set_option maxRecDepth 20000 in
theorem gX4_follow_X0_chargeMonth : GoodIn wsX4_follow (wsV RX4 193 RX0 yX0_chargeMonth wsX0_chargeMonth) := goodIn_app (goodIn_of _ (by decide +kernel)) ggX4_follow_X0_chargeMonth
theorem dX4_follow_0 : decode cX4_follow 0 = .ok (.aload_n 0, 1) := by decide +kernel
theorem dX4_follow_1 : decode cX4_follow 1 = .ok (.getfield 24, 3) := by decide +kernel
theorem dX4_follow_4 : decode cX4_follow 4 = .ok (.aload_n 1, 1) := by decide +kernel
theorem dX4_follow_5 : decode cX4_follow 5 = .ok (.invokevirtual 183, 3) := by decide +kernel
theorem dX4_follow_8 : decode cX4_follow 8 = .ok (.aload_n 0, 1) := by decide +kernel
theorem dX4_follow_9 : decode cX4_follow 9 = .ok (.getfield 28, 3) := by decide +kernel
theorem dX4_follow_12 : decode cX4_follow 12 = .ok (.aload_n 1, 1) := by decide +kernel
theorem dX4_follow_13 : decode cX4_follow 13 = .ok (.invokevirtual 183, 3) := by decide +kernel
theorem dX4_follow_16 : decode cX4_follow 16 = .ok (.aload_n 1, 1) := by decide +kernel
theorem dX4_follow_17 : decode cX4_follow 17 = .ok (.getfield 84, 3) := by decide +kernel
theorem dX4_follow_20 : decode cX4_follow 20 = .ok (.istore_n 3, 1) := by decide +kernel
theorem dX4_follow_21 : decode cX4_follow 21 = .ok (.iload_n 3, 1) := by decide +kernel
theorem dX4_follow_22 : decode cX4_follow 22 = .ok (.iload_n 2, 1) := by decide +kernel
theorem dX4_follow_23 : decode cX4_follow 23 = .ok (.if_icmp .gt 94, 3) := by decide +kernel
theorem dX4_follow_26 : decode cX4_follow 26 = .ok (.aload_n 1, 1) := by decide +kernel
theorem dX4_follow_27 : decode cX4_follow 27 = .ok (.getfield 93, 3) := by decide +kernel
theorem dX4_follow_30 : decode cX4_follow 30 = .ok (.iload_n 3, 1) := by decide +kernel
theorem dX4_follow_31 : decode cX4_follow 31 = .ok (.aaload, 1) := by decide +kernel
theorem dX4_follow_32 : decode cX4_follow 32 = .ok (.astore 4, 2) := by decide +kernel
theorem dX4_follow_34 : decode cX4_follow 34 = .ok (.aload 4, 2) := by decide +kernel
theorem dX4_follow_36 : decode cX4_follow 36 = .ok (.ifnull 49, 3) := by decide +kernel
theorem dX4_follow_39 : decode cX4_follow 39 = .ok (.aload_n 0, 1) := by decide +kernel
theorem dX4_follow_40 : decode cX4_follow 40 = .ok (.getfield 24, 3) := by decide +kernel
theorem dX4_follow_43 : decode cX4_follow 43 = .ok (.aload 4, 2) := by decide +kernel
theorem dX4_follow_45 : decode cX4_follow 45 = .ok (.aload_n 0, 1) := by decide +kernel
theorem dX4_follow_46 : decode cX4_follow 46 = .ok (.getfield 28, 3) := by decide +kernel
theorem dX4_follow_49 : decode cX4_follow 49 = .ok (.invokevirtual 159, 3) := by decide +kernel
theorem dX4_follow_52 : decode cX4_follow 52 = .ok (.invokevirtual 187, 3) := by decide +kernel
theorem dX4_follow_55 : decode cX4_follow 55 = .ok (.aload 4, 2) := by decide +kernel
theorem dX4_follow_57 : decode cX4_follow 57 = .ok (.getfield 117, 3) := by decide +kernel
theorem dX4_follow_60 : decode cX4_follow 60 = .ok (.iconst 3, 1) := by decide +kernel
theorem dX4_follow_61 : decode cX4_follow 61 = .ok (.if_icmp .eq 24, 3) := by decide +kernel
theorem dX4_follow_64 : decode cX4_follow 64 = .ok (.aload 4, 2) := by decide +kernel
theorem dX4_follow_66 : decode cX4_follow 66 = .ok (.getfield 117, 3) := by decide +kernel
theorem dX4_follow_69 : decode cX4_follow 69 = .ok (.iconst 4, 1) := by decide +kernel
theorem dX4_follow_70 : decode cX4_follow 70 = .ok (.if_icmp .eq 15, 3) := by decide +kernel
theorem dX4_follow_73 : decode cX4_follow 73 = .ok (.aload_n 0, 1) := by decide +kernel
theorem dX4_follow_74 : decode cX4_follow 74 = .ok (.getfield 28, 3) := by decide +kernel
theorem dX4_follow_77 : decode cX4_follow 77 = .ok (.aload 4, 2) := by decide +kernel
theorem dX4_follow_79 : decode cX4_follow 79 = .ok (.ldc2_w 191, 3) := by decide +kernel
theorem dX4_follow_82 : decode cX4_follow 82 = .ok (.invokevirtual 187, 3) := by decide +kernel
theorem dX4_follow_85 : decode cX4_follow 85 = .ok (.aload_n 0, 1) := by decide +kernel
theorem dX4_follow_86 : decode cX4_follow 86 = .ok (.getfield 24, 3) := by decide +kernel
theorem dX4_follow_89 : decode cX4_follow 89 = .ok (.aload_n 1, 1) := by decide +kernel
theorem dX4_follow_90 : decode cX4_follow 90 = .ok (.getfield 74, 3) := by decide +kernel
theorem dX4_follow_93 : decode cX4_follow 93 = .ok (.iload_n 3, 1) := by decide +kernel
theorem dX4_follow_94 : decode cX4_follow 94 = .ok (.iaload, 1) := by decide +kernel
theorem dX4_follow_95 : decode cX4_follow 95 = .ok (.invokevirtual 193, 3) := by decide +kernel
theorem dX4_follow_98 : decode cX4_follow 98 = .ok (.aload_n 0, 1) := by decide +kernel
theorem dX4_follow_99 : decode cX4_follow 99 = .ok (.getfield 28, 3) := by decide +kernel
theorem dX4_follow_102 : decode cX4_follow 102 = .ok (.aload_n 1, 1) := by decide +kernel
theorem dX4_follow_103 : decode cX4_follow 103 = .ok (.getfield 74, 3) := by decide +kernel
theorem dX4_follow_106 : decode cX4_follow 106 = .ok (.iload_n 3, 1) := by decide +kernel
theorem dX4_follow_107 : decode cX4_follow 107 = .ok (.iaload, 1) := by decide +kernel
theorem dX4_follow_108 : decode cX4_follow 108 = .ok (.invokevirtual 193, 3) := by decide +kernel
theorem dX4_follow_111 : decode cX4_follow 111 = .ok (.iinc 3 1, 3) := by decide +kernel
theorem dX4_follow_114 : decode cX4_follow 114 = .ok (.goto (-93), 3) := by decide +kernel
theorem dX4_follow_117 : decode cX4_follow 117 = .ok (.return_, 1) := by decide +kernel
theorem dX4_isWithin_0 : decode cX4_isWithin 0 = .ok (.lload_n 0, 1) := by decide +kernel
theorem dX4_isWithin_1 : decode cX4_isWithin 1 = .ok (.lload_n 2, 1) := by decide +kernel
theorem dX4_isWithin_2 : decode cX4_isWithin 2 = .ok (.lcmp, 1) := by decide +kernel
theorem dX4_isWithin_3 : decode cX4_isWithin 3 = .ok (.ifCond .lt 14, 3) := by decide +kernel
theorem dX4_isWithin_6 : decode cX4_isWithin 6 = .ok (.lload_n 0, 1) := by decide +kernel
theorem dX4_isWithin_7 : decode cX4_isWithin 7 = .ok (.lload 4, 2) := by decide +kernel
theorem dX4_isWithin_9 : decode cX4_isWithin 9 = .ok (.lcmp, 1) := by decide +kernel
theorem dX4_isWithin_10 : decode cX4_isWithin 10 = .ok (.ifCond .gt 7, 3) := by decide +kernel
theorem dX4_isWithin_13 : decode cX4_isWithin 13 = .ok (.iconst 1, 1) := by decide +kernel
theorem dX4_isWithin_14 : decode cX4_isWithin 14 = .ok (.goto 4, 3) := by decide +kernel
theorem dX4_isWithin_17 : decode cX4_isWithin 17 = .ok (.iconst 0, 1) := by decide +kernel
theorem dX4_isWithin_18 : decode cX4_isWithin 18 = .ok (.ireturn, 1) := by decide +kernel
theorem dX4_isMonth_0 : decode cX4_isMonth 0 = .ok (.iload_n 0, 1) := by decide +kernel
theorem dX4_isMonth_1 : decode cX4_isMonth 1 = .ok (.ifCond .lt 13, 3) := by decide +kernel
theorem dX4_isMonth_4 : decode cX4_isMonth 4 = .ok (.iload_n 0, 1) := by decide +kernel
theorem dX4_isMonth_5 : decode cX4_isMonth 5 = .ok (.bipush 36, 2) := by decide +kernel
theorem dX4_isMonth_7 : decode cX4_isMonth 7 = .ok (.if_icmp .ge 7, 3) := by decide +kernel
theorem dX4_isMonth_10 : decode cX4_isMonth 10 = .ok (.iconst 1, 1) := by decide +kernel
theorem dX4_isMonth_11 : decode cX4_isMonth 11 = .ok (.goto 4, 3) := by decide +kernel
theorem dX4_isMonth_14 : decode cX4_isMonth 14 = .ok (.iconst 0, 1) := by decide +kernel
theorem dX4_isMonth_15 : decode cX4_isMonth 15 = .ok (.ireturn, 1) := by decide +kernel
set_option maxRecDepth 20000 in
theorem ggX4_isRateOf_X4_isWithin : GoodIn wsX4_isRateOf wsX4_isWithin := goodIn_r _ [5] (by decide +kernel) (by decide +kernel)
set_option maxRecDepth 20000 in
theorem gX4_isRateOf_X4_isWithin : GoodIn wsX4_isRateOf (va_wsS RX4 33 yX4_isWithin wsX4_isWithin) := goodIn_app (goodIn_of _ (by decide +kernel)) ggX4_isRateOf_X4_isWithin
theorem dX4_isRateOf_0 : decode cX4_isRateOf 0 = .ok (.iload_n 0, 1) := by decide +kernel
theorem dX4_isRateOf_1 : decode cX4_isRateOf 1 = .ok (.tableswitch 51 0 3 #[31, 41, 31, 41], 31) := by decide +kernel
theorem dX4_isRateOf_32 : decode cX4_isRateOf 32 = .ok (.iload_n 1, 1) := by decide +kernel
theorem dX4_isRateOf_33 : decode cX4_isRateOf 33 = .ok (.ifCond .ne 7, 3) := by decide +kernel
theorem dX4_isRateOf_36 : decode cX4_isRateOf 36 = .ok (.iconst 1, 1) := by decide +kernel
theorem dX4_isRateOf_37 : decode cX4_isRateOf 37 = .ok (.goto 4, 3) := by decide +kernel
theorem dX4_isRateOf_40 : decode cX4_isRateOf 40 = .ok (.iconst 0, 1) := by decide +kernel
theorem dX4_isRateOf_41 : decode cX4_isRateOf 41 = .ok (.ireturn, 1) := by decide +kernel
theorem dX4_isRateOf_42 : decode cX4_isRateOf 42 = .ok (.iload_n 1, 1) := by decide +kernel
theorem dX4_isRateOf_43 : decode cX4_isRateOf 43 = .ok (.i2l, 1) := by decide +kernel
theorem dX4_isRateOf_44 : decode cX4_isRateOf 44 = .ok (.lconst 1, 1) := by decide +kernel
theorem dX4_isRateOf_45 : decode cX4_isRateOf 45 = .ok (.ldc2_w 70, 3) := by decide +kernel
theorem dX4_isRateOf_48 : decode cX4_isRateOf 48 = .ok (.invokestatic 33, 3) := by decide +kernel
theorem dX4_isRateOf_51 : decode cX4_isRateOf 51 = .ok (.ireturn, 1) := by decide +kernel
theorem dX4_isRateOf_52 : decode cX4_isRateOf 52 = .ok (.iconst 0, 1) := by decide +kernel
theorem dX4_isRateOf_53 : decode cX4_isRateOf 53 = .ok (.ireturn, 1) := by decide +kernel
set_option maxRecDepth 20000 in
theorem ggX4_isEvent_X4_isWithin : GoodIn wsX4_isEvent wsX4_isWithin := goodIn_r _ [7] (by decide +kernel) (by decide +kernel)
set_option maxRecDepth 20000 in
theorem gX4_isEvent_X4_isWithin : GoodIn wsX4_isEvent (va_wsS RX4 33 yX4_isWithin wsX4_isWithin) := goodIn_app (goodIn_of _ (by decide +kernel)) ggX4_isEvent_X4_isWithin
theorem dX4_isEvent_0 : decode cX4_isEvent 0 = .ok (.iload_n 0, 1) := by decide +kernel
theorem dX4_isEvent_1 : decode cX4_isEvent 1 = .ok (.tableswitch 158 0 7 #[47, 68, 97, 97, 97, 118, 142, 142], 47) := by decide +kernel
theorem dX4_isEvent_48 : decode cX4_isEvent 48 = .ok (.lload_n 1, 1) := by decide +kernel
theorem dX4_isEvent_49 : decode cX4_isEvent 49 = .ok (.lconst 1, 1) := by decide +kernel
theorem dX4_isEvent_50 : decode cX4_isEvent 50 = .ok (.ldc2_w 31, 3) := by decide +kernel
theorem dX4_isEvent_53 : decode cX4_isEvent 53 = .ok (.invokestatic 33, 3) := by decide +kernel
theorem dX4_isEvent_56 : decode cX4_isEvent 56 = .ok (.ifCond .eq 11, 3) := by decide +kernel
theorem dX4_isEvent_59 : decode cX4_isEvent 59 = .ok (.iload_n 3, 1) := by decide +kernel
theorem dX4_isEvent_60 : decode cX4_isEvent 60 = .ok (.ifCond .ne 7, 3) := by decide +kernel
theorem dX4_isEvent_63 : decode cX4_isEvent 63 = .ok (.iconst 1, 1) := by decide +kernel
theorem dX4_isEvent_64 : decode cX4_isEvent 64 = .ok (.goto 4, 3) := by decide +kernel
theorem dX4_isEvent_67 : decode cX4_isEvent 67 = .ok (.iconst 0, 1) := by decide +kernel
theorem dX4_isEvent_68 : decode cX4_isEvent 68 = .ok (.ireturn, 1) := by decide +kernel
theorem dX4_isEvent_69 : decode cX4_isEvent 69 = .ok (.lload_n 1, 1) := by decide +kernel
theorem dX4_isEvent_70 : decode cX4_isEvent 70 = .ok (.lconst 0, 1) := by decide +kernel
theorem dX4_isEvent_71 : decode cX4_isEvent 71 = .ok (.ldc2_w 31, 3) := by decide +kernel
theorem dX4_isEvent_74 : decode cX4_isEvent 74 = .ok (.invokestatic 33, 3) := by decide +kernel
theorem dX4_isEvent_77 : decode cX4_isEvent 77 = .ok (.ifCond .eq 19, 3) := by decide +kernel
theorem dX4_isEvent_80 : decode cX4_isEvent 80 = .ok (.iload_n 3, 1) := by decide +kernel
theorem dX4_isEvent_81 : decode cX4_isEvent 81 = .ok (.i2l, 1) := by decide +kernel
theorem dX4_isEvent_82 : decode cX4_isEvent 82 = .ok (.lconst 1, 1) := by decide +kernel
theorem dX4_isEvent_83 : decode cX4_isEvent 83 = .ok (.ldc2_w 41, 3) := by decide +kernel
theorem dX4_isEvent_86 : decode cX4_isEvent 86 = .ok (.invokestatic 33, 3) := by decide +kernel
theorem dX4_isEvent_89 : decode cX4_isEvent 89 = .ok (.ifCond .eq 7, 3) := by decide +kernel
theorem dX4_isEvent_92 : decode cX4_isEvent 92 = .ok (.iconst 1, 1) := by decide +kernel
theorem dX4_isEvent_93 : decode cX4_isEvent 93 = .ok (.goto 4, 3) := by decide +kernel
theorem dX4_isEvent_96 : decode cX4_isEvent 96 = .ok (.iconst 0, 1) := by decide +kernel
theorem dX4_isEvent_97 : decode cX4_isEvent 97 = .ok (.ireturn, 1) := by decide +kernel
theorem dX4_isEvent_98 : decode cX4_isEvent 98 = .ok (.lload_n 1, 1) := by decide +kernel
theorem dX4_isEvent_99 : decode cX4_isEvent 99 = .ok (.lconst 0, 1) := by decide +kernel
theorem dX4_isEvent_100 : decode cX4_isEvent 100 = .ok (.ldc2_w 31, 3) := by decide +kernel
theorem dX4_isEvent_103 : decode cX4_isEvent 103 = .ok (.invokestatic 33, 3) := by decide +kernel
theorem dX4_isEvent_106 : decode cX4_isEvent 106 = .ok (.ifCond .eq 11, 3) := by decide +kernel
theorem dX4_isEvent_109 : decode cX4_isEvent 109 = .ok (.iload_n 3, 1) := by decide +kernel
theorem dX4_isEvent_110 : decode cX4_isEvent 110 = .ok (.ifCond .ne 7, 3) := by decide +kernel
theorem dX4_isEvent_113 : decode cX4_isEvent 113 = .ok (.iconst 1, 1) := by decide +kernel
theorem dX4_isEvent_114 : decode cX4_isEvent 114 = .ok (.goto 4, 3) := by decide +kernel
theorem dX4_isEvent_117 : decode cX4_isEvent 117 = .ok (.iconst 0, 1) := by decide +kernel
theorem dX4_isEvent_118 : decode cX4_isEvent 118 = .ok (.ireturn, 1) := by decide +kernel
theorem dX4_isEvent_119 : decode cX4_isEvent 119 = .ok (.lload_n 1, 1) := by decide +kernel
theorem dX4_isEvent_120 : decode cX4_isEvent 120 = .ok (.lconst 0, 1) := by decide +kernel
theorem dX4_isEvent_121 : decode cX4_isEvent 121 = .ok (.lcmp, 1) := by decide +kernel
theorem dX4_isEvent_122 : decode cX4_isEvent 122 = .ok (.ifCond .ne 19, 3) := by decide +kernel
theorem dX4_isEvent_125 : decode cX4_isEvent 125 = .ok (.iload_n 3, 1) := by decide +kernel
theorem dX4_isEvent_126 : decode cX4_isEvent 126 = .ok (.i2l, 1) := by decide +kernel
theorem dX4_isEvent_127 : decode cX4_isEvent 127 = .ok (.lconst 1, 1) := by decide +kernel
theorem dX4_isEvent_128 : decode cX4_isEvent 128 = .ok (.ldc2_w 70, 3) := by decide +kernel
theorem dX4_isEvent_131 : decode cX4_isEvent 131 = .ok (.invokestatic 33, 3) := by decide +kernel
theorem dX4_isEvent_134 : decode cX4_isEvent 134 = .ok (.ifCond .eq 7, 3) := by decide +kernel
theorem dX4_isEvent_137 : decode cX4_isEvent 137 = .ok (.iconst 1, 1) := by decide +kernel
theorem dX4_isEvent_138 : decode cX4_isEvent 138 = .ok (.goto 4, 3) := by decide +kernel
theorem dX4_isEvent_141 : decode cX4_isEvent 141 = .ok (.iconst 0, 1) := by decide +kernel
theorem dX4_isEvent_142 : decode cX4_isEvent 142 = .ok (.ireturn, 1) := by decide +kernel
theorem dX4_isEvent_143 : decode cX4_isEvent 143 = .ok (.lload_n 1, 1) := by decide +kernel
theorem dX4_isEvent_144 : decode cX4_isEvent 144 = .ok (.lconst 0, 1) := by decide +kernel
theorem dX4_isEvent_145 : decode cX4_isEvent 145 = .ok (.lcmp, 1) := by decide +kernel
theorem dX4_isEvent_146 : decode cX4_isEvent 146 = .ok (.ifCond .ne 11, 3) := by decide +kernel
theorem dX4_isEvent_149 : decode cX4_isEvent 149 = .ok (.iload_n 3, 1) := by decide +kernel
theorem dX4_isEvent_150 : decode cX4_isEvent 150 = .ok (.ifCond .ne 7, 3) := by decide +kernel
theorem dX4_isEvent_153 : decode cX4_isEvent 153 = .ok (.iconst 1, 1) := by decide +kernel
theorem dX4_isEvent_154 : decode cX4_isEvent 154 = .ok (.goto 4, 3) := by decide +kernel
theorem dX4_isEvent_157 : decode cX4_isEvent 157 = .ok (.iconst 0, 1) := by decide +kernel
theorem dX4_isEvent_158 : decode cX4_isEvent 158 = .ok (.ireturn, 1) := by decide +kernel
theorem dX4_isEvent_159 : decode cX4_isEvent 159 = .ok (.iconst 0, 1) := by decide +kernel
theorem dX4_isEvent_160 : decode cX4_isEvent 160 = .ok (.ireturn, 1) := by decide +kernel
theorem dX4_rounded_0 : decode cX4_rounded 0 = .ok (.lload_n 2, 1) := by decide +kernel
theorem dX4_rounded_1 : decode cX4_rounded 1 = .ok (.lconst 0, 1) := by decide +kernel
theorem dX4_rounded_2 : decode cX4_rounded 2 = .ok (.lcmp, 1) := by decide +kernel
theorem dX4_rounded_3 : decode cX4_rounded 3 = .ok (.ifCond .le 19, 3) := by decide +kernel
theorem dX4_rounded_6 : decode cX4_rounded 6 = .ok (.ldc2_w 197, 3) := by decide +kernel
theorem dX4_rounded_9 : decode cX4_rounded 9 = .ok (.lload_n 0, 1) := by decide +kernel
theorem dX4_rounded_10 : decode cX4_rounded 10 = .ok (.lmul, 1) := by decide +kernel
theorem dX4_rounded_11 : decode cX4_rounded 11 = .ok (.lload_n 2, 1) := by decide +kernel
theorem dX4_rounded_12 : decode cX4_rounded 12 = .ok (.ladd, 1) := by decide +kernel
theorem dX4_rounded_13 : decode cX4_rounded 13 = .ok (.ldc2_w 197, 3) := by decide +kernel
theorem dX4_rounded_16 : decode cX4_rounded 16 = .ok (.lload_n 2, 1) := by decide +kernel
theorem dX4_rounded_17 : decode cX4_rounded 17 = .ok (.lmul, 1) := by decide +kernel
theorem dX4_rounded_18 : decode cX4_rounded 18 = .ok (.ldiv, 1) := by decide +kernel
theorem dX4_rounded_19 : decode cX4_rounded 19 = .ok (.goto 4, 3) := by decide +kernel
theorem dX4_rounded_22 : decode cX4_rounded 22 = .ok (.lconst 0, 1) := by decide +kernel
theorem dX4_rounded_23 : decode cX4_rounded 23 = .ok (.lreturn, 1) := by decide +kernel
