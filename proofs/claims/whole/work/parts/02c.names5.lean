theorem dX5_init_0 : decode cX5_init 0 = .ok (.aload_n 0, 1) := by decide +kernel
theorem dX5_init_1 : decode cX5_init 1 = .ok (.invokespecial 1, 3) := by decide +kernel
theorem dX5_init_4 : decode cX5_init 4 = .ok (.aload_n 0, 1) := by decide +kernel
theorem dX5_init_5 : decode cX5_init 5 = .ok (.bipush 6, 2) := by decide +kernel
theorem dX5_init_7 : decode cX5_init 7 = .ok (.newarray .long, 2) := by decide +kernel
theorem dX5_init_9 : decode cX5_init 9 = .ok (.putfield 7, 3) := by decide +kernel
theorem dX5_init_12 : decode cX5_init 12 = .ok (.aload_n 0, 1) := by decide +kernel
theorem dX5_init_13 : decode cX5_init 13 = .ok (.bipush 6, 2) := by decide +kernel
theorem dX5_init_15 : decode cX5_init 15 = .ok (.newarray .long, 2) := by decide +kernel
theorem dX5_init_17 : decode cX5_init 17 = .ok (.putfield 13, 3) := by decide +kernel
theorem dX5_init_20 : decode cX5_init 20 = .ok (.aload_n 0, 1) := by decide +kernel
theorem dX5_init_21 : decode cX5_init 21 = .ok (.bipush 6, 2) := by decide +kernel
theorem dX5_init_23 : decode cX5_init 23 = .ok (.newarray .int, 2) := by decide +kernel
theorem dX5_init_25 : decode cX5_init 25 = .ok (.putfield 16, 3) := by decide +kernel
theorem dX5_init_28 : decode cX5_init 28 = .ok (.aload_n 0, 1) := by decide +kernel
theorem dX5_init_29 : decode cX5_init 29 = .ok (.bipush 6, 2) := by decide +kernel
theorem dX5_init_31 : decode cX5_init 31 = .ok (.newarray .int, 2) := by decide +kernel
theorem dX5_init_33 : decode cX5_init 33 = .ok (.putfield 20, 3) := by decide +kernel
theorem dX5_init_36 : decode cX5_init 36 = .ok (.aload_n 0, 1) := by decide +kernel
theorem dX5_init_37 : decode cX5_init 37 = .ok (.bipush 6, 2) := by decide +kernel
theorem dX5_init_39 : decode cX5_init 39 = .ok (.newarray .int, 2) := by decide +kernel
theorem dX5_init_41 : decode cX5_init 41 = .ok (.putfield 23, 3) := by decide +kernel
theorem dX5_init_44 : decode cX5_init 44 = .ok (.aload_n 0, 1) := by decide +kernel
theorem dX5_init_45 : decode cX5_init 45 = .ok (.bipush 6, 2) := by decide +kernel
theorem dX5_init_47 : decode cX5_init 47 = .ok (.newarray .int, 2) := by decide +kernel
theorem dX5_init_49 : decode cX5_init 49 = .ok (.putfield 26, 3) := by decide +kernel
theorem dX5_init_52 : decode cX5_init 52 = .ok (.aload_n 0, 1) := by decide +kernel
theorem dX5_init_53 : decode cX5_init 53 = .ok (.sipush 216, 3) := by decide +kernel
theorem dX5_init_56 : decode cX5_init 56 = .ok (.newarray .int, 2) := by decide +kernel
theorem dX5_init_58 : decode cX5_init 58 = .ok (.putfield 29, 3) := by decide +kernel
theorem dX5_init_61 : decode cX5_init 61 = .ok (.aload_n 0, 1) := by decide +kernel
theorem dX5_init_62 : decode cX5_init 62 = .ok (.sipush 216, 3) := by decide +kernel
theorem dX5_init_65 : decode cX5_init 65 = .ok (.newarray .long, 2) := by decide +kernel
theorem dX5_init_67 : decode cX5_init 67 = .ok (.putfield 32, 3) := by decide +kernel
theorem dX5_init_70 : decode cX5_init 70 = .ok (.aload_n 0, 1) := by decide +kernel
theorem dX5_init_71 : decode cX5_init 71 = .ok (.bipush 40, 2) := by decide +kernel
theorem dX5_init_73 : decode cX5_init 73 = .ok (.newarray .int, 2) := by decide +kernel
theorem dX5_init_75 : decode cX5_init 75 = .ok (.putfield 35, 3) := by decide +kernel
theorem dX5_init_78 : decode cX5_init 78 = .ok (.aload_n 0, 1) := by decide +kernel
theorem dX5_init_79 : decode cX5_init 79 = .ok (.bipush 40, 2) := by decide +kernel
theorem dX5_init_81 : decode cX5_init 81 = .ok (.newarray .int, 2) := by decide +kernel
theorem dX5_init_83 : decode cX5_init 83 = .ok (.putfield 38, 3) := by decide +kernel
theorem dX5_init_86 : decode cX5_init 86 = .ok (.aload_n 0, 1) := by decide +kernel
theorem dX5_init_87 : decode cX5_init 87 = .ok (.bipush 40, 2) := by decide +kernel
theorem dX5_init_89 : decode cX5_init 89 = .ok (.newarray .int, 2) := by decide +kernel
theorem dX5_init_91 : decode cX5_init 91 = .ok (.putfield 41, 3) := by decide +kernel
theorem dX5_init_94 : decode cX5_init 94 = .ok (.aload_n 0, 1) := by decide +kernel
theorem dX5_init_95 : decode cX5_init 95 = .ok (.bipush 40, 2) := by decide +kernel
theorem dX5_init_97 : decode cX5_init 97 = .ok (.newarray .long, 2) := by decide +kernel
theorem dX5_init_99 : decode cX5_init 99 = .ok (.putfield 44, 3) := by decide +kernel
theorem dX5_init_102 : decode cX5_init 102 = .ok (.aload_n 0, 1) := by decide +kernel
theorem dX5_init_103 : decode cX5_init 103 = .ok (.bipush 40, 2) := by decide +kernel
theorem dX5_init_105 : decode cX5_init 105 = .ok (.newarray .int, 2) := by decide +kernel
theorem dX5_init_107 : decode cX5_init 107 = .ok (.putfield 47, 3) := by decide +kernel
theorem dX5_init_110 : decode cX5_init 110 = .ok (.aload_n 0, 1) := by decide +kernel
theorem dX5_init_111 : decode cX5_init 111 = .ok (.bipush 36, 2) := by decide +kernel
theorem dX5_init_113 : decode cX5_init 113 = .ok (.newarray .long, 2) := by decide +kernel
theorem dX5_init_115 : decode cX5_init 115 = .ok (.putfield 50, 3) := by decide +kernel
theorem dX5_init_118 : decode cX5_init 118 = .ok (.aload_n 0, 1) := by decide +kernel
theorem dX5_init_119 : decode cX5_init 119 = .ok (.bipush 36, 2) := by decide +kernel
theorem dX5_init_121 : decode cX5_init 121 = .ok (.newarray .long, 2) := by decide +kernel
theorem dX5_init_123 : decode cX5_init 123 = .ok (.putfield 53, 3) := by decide +kernel
theorem dX5_init_126 : decode cX5_init 126 = .ok (.return_, 1) := by decide +kernel
theorem dX5_thrown_0 : decode cX5_thrown 0 = .ok (.aload_n 0, 1) := by decide +kernel
theorem dX5_thrown_1 : decode cX5_thrown 1 = .ok (.getfield 56, 3) := by decide +kernel
theorem dX5_thrown_4 : decode cX5_thrown 4 = .ok (.ireturn, 1) := by decide +kernel
theorem dX5_isIn_0 : decode cX5_isIn 0 = .ok (.lload_n 0, 1) := by decide +kernel
theorem dX5_isIn_1 : decode cX5_isIn 1 = .ok (.lload_n 2, 1) := by decide +kernel
theorem dX5_isIn_2 : decode cX5_isIn 2 = .ok (.lcmp, 1) := by decide +kernel
theorem dX5_isIn_3 : decode cX5_isIn 3 = .ok (.ifCond .lt 14, 3) := by decide +kernel
theorem dX5_isIn_6 : decode cX5_isIn 6 = .ok (.lload_n 0, 1) := by decide +kernel
theorem dX5_isIn_7 : decode cX5_isIn 7 = .ok (.lload 4, 2) := by decide +kernel
theorem dX5_isIn_9 : decode cX5_isIn 9 = .ok (.lcmp, 1) := by decide +kernel
theorem dX5_isIn_10 : decode cX5_isIn 10 = .ok (.ifCond .gt 7, 3) := by decide +kernel
theorem dX5_isIn_13 : decode cX5_isIn 13 = .ok (.iconst 1, 1) := by decide +kernel
theorem dX5_isIn_14 : decode cX5_isIn 14 = .ok (.goto 4, 3) := by decide +kernel
theorem dX5_isIn_17 : decode cX5_isIn 17 = .ok (.iconst 0, 1) := by decide +kernel
theorem dX5_isIn_18 : decode cX5_isIn 18 = .ok (.ireturn, 1) := by decide +kernel
theorem dX5_rounded_0 : decode cX5_rounded 0 = .ok (.ldc2_w 60, 3) := by decide +kernel
theorem dX5_rounded_3 : decode cX5_rounded 3 = .ok (.lload_n 0, 1) := by decide +kernel
theorem dX5_rounded_4 : decode cX5_rounded 4 = .ok (.lmul, 1) := by decide +kernel
theorem dX5_rounded_5 : decode cX5_rounded 5 = .ok (.lload_n 2, 1) := by decide +kernel
theorem dX5_rounded_6 : decode cX5_rounded 6 = .ok (.ladd, 1) := by decide +kernel
theorem dX5_rounded_7 : decode cX5_rounded 7 = .ok (.ldc2_w 60, 3) := by decide +kernel
theorem dX5_rounded_10 : decode cX5_rounded 10 = .ok (.lload_n 2, 1) := by decide +kernel
theorem dX5_rounded_11 : decode cX5_rounded 11 = .ok (.lmul, 1) := by decide +kernel
theorem dX5_rounded_12 : decode cX5_rounded 12 = .ok (.ldiv, 1) := by decide +kernel
theorem dX5_rounded_13 : decode cX5_rounded 13 = .ok (.lreturn, 1) := by decide +kernel
theorem dX5_isPart_0 : decode cX5_isPart 0 = .ok (.iload_n 1, 1) := by decide +kernel
theorem dX5_isPart_1 : decode cX5_isPart 1 = .ok (.ifCond .lt 15, 3) := by decide +kernel
theorem dX5_isPart_4 : decode cX5_isPart 4 = .ok (.iload_n 1, 1) := by decide +kernel
theorem dX5_isPart_5 : decode cX5_isPart 5 = .ok (.aload_n 0, 1) := by decide +kernel
theorem dX5_isPart_6 : decode cX5_isPart 6 = .ok (.getfield 62, 3) := by decide +kernel
theorem dX5_isPart_9 : decode cX5_isPart 9 = .ok (.if_icmp .ge 7, 3) := by decide +kernel
theorem dX5_isPart_12 : decode cX5_isPart 12 = .ok (.iconst 1, 1) := by decide +kernel
theorem dX5_isPart_13 : decode cX5_isPart 13 = .ok (.goto 4, 3) := by decide +kernel
theorem dX5_isPart_16 : decode cX5_isPart 16 = .ok (.iconst 0, 1) := by decide +kernel
theorem dX5_isPart_17 : decode cX5_isPart 17 = .ok (.ireturn, 1) := by decide +kernel
theorem dX5_isMonth_0 : decode cX5_isMonth 0 = .ok (.iload_n 0, 1) := by decide +kernel
theorem dX5_isMonth_1 : decode cX5_isMonth 1 = .ok (.ifCond .lt 13, 3) := by decide +kernel
theorem dX5_isMonth_4 : decode cX5_isMonth 4 = .ok (.iload_n 0, 1) := by decide +kernel
theorem dX5_isMonth_5 : decode cX5_isMonth 5 = .ok (.bipush 36, 2) := by decide +kernel
theorem dX5_isMonth_7 : decode cX5_isMonth 7 = .ok (.if_icmp .ge 7, 3) := by decide +kernel
theorem dX5_isMonth_10 : decode cX5_isMonth 10 = .ok (.iconst 1, 1) := by decide +kernel
theorem dX5_isMonth_11 : decode cX5_isMonth 11 = .ok (.goto 4, 3) := by decide +kernel
theorem dX5_isMonth_14 : decode cX5_isMonth 14 = .ok (.iconst 0, 1) := by decide +kernel
theorem dX5_isMonth_15 : decode cX5_isMonth 15 = .ok (.ireturn, 1) := by decide +kernel
theorem dX5_book_0 : decode cX5_book 0 = .ok (.aload_n 0, 1) := by decide +kernel
theorem dX5_book_1 : decode cX5_book 1 = .ok (.getfield 65, 3) := by decide +kernel
theorem dX5_book_4 : decode cX5_book 4 = .ok (.aload_n 0, 1) := by decide +kernel
theorem dX5_book_5 : decode cX5_book 5 = .ok (.getfield 69, 3) := by decide +kernel
theorem dX5_book_8 : decode cX5_book 8 = .ok (.lsub, 1) := by decide +kernel
theorem dX5_book_9 : decode cX5_book 9 = .ok (.lreturn, 1) := by decide +kernel
theorem dX5_eventIn_0 : decode cX5_eventIn 0 = .ok (.iconst (-1), 1) := by decide +kernel
theorem dX5_eventIn_1 : decode cX5_eventIn 1 = .ok (.istore_n 3, 1) := by decide +kernel
theorem dX5_eventIn_2 : decode cX5_eventIn 2 = .ok (.iconst 0, 1) := by decide +kernel
theorem dX5_eventIn_3 : decode cX5_eventIn 3 = .ok (.istore 4, 2) := by decide +kernel
theorem dX5_eventIn_5 : decode cX5_eventIn 5 = .ok (.iload 4, 2) := by decide +kernel
theorem dX5_eventIn_7 : decode cX5_eventIn 7 = .ok (.aload_n 0, 1) := by decide +kernel
theorem dX5_eventIn_8 : decode cX5_eventIn 8 = .ok (.getfield 72, 3) := by decide +kernel
theorem dX5_eventIn_11 : decode cX5_eventIn 11 = .ok (.if_icmp .ge 40, 3) := by decide +kernel
theorem dX5_eventIn_14 : decode cX5_eventIn 14 = .ok (.aload_n 0, 1) := by decide +kernel
theorem dX5_eventIn_15 : decode cX5_eventIn 15 = .ok (.getfield 35, 3) := by decide +kernel
theorem dX5_eventIn_18 : decode cX5_eventIn 18 = .ok (.iload 4, 2) := by decide +kernel
theorem dX5_eventIn_20 : decode cX5_eventIn 20 = .ok (.iaload, 1) := by decide +kernel
theorem dX5_eventIn_21 : decode cX5_eventIn 21 = .ok (.iload_n 1, 1) := by decide +kernel
theorem dX5_eventIn_22 : decode cX5_eventIn 22 = .ok (.iconst 1, 1) := by decide +kernel
theorem dX5_eventIn_23 : decode cX5_eventIn 23 = .ok (.iadd, 1) := by decide +kernel
theorem dX5_eventIn_24 : decode cX5_eventIn 24 = .ok (.if_icmp .ne 19, 3) := by decide +kernel
theorem dX5_eventIn_27 : decode cX5_eventIn 27 = .ok (.aload_n 0, 1) := by decide +kernel
theorem dX5_eventIn_28 : decode cX5_eventIn 28 = .ok (.getfield 38, 3) := by decide +kernel
theorem dX5_eventIn_31 : decode cX5_eventIn 31 = .ok (.iload 4, 2) := by decide +kernel
theorem dX5_eventIn_33 : decode cX5_eventIn 33 = .ok (.iaload, 1) := by decide +kernel
theorem dX5_eventIn_34 : decode cX5_eventIn 34 = .ok (.iload_n 2, 1) := by decide +kernel
theorem dX5_eventIn_35 : decode cX5_eventIn 35 = .ok (.if_icmp .ne 8, 3) := by decide +kernel
theorem dX5_eventIn_38 : decode cX5_eventIn 38 = .ok (.iload 4, 2) := by decide +kernel
theorem dX5_eventIn_40 : decode cX5_eventIn 40 = .ok (.goto 4, 3) := by decide +kernel
theorem dX5_eventIn_43 : decode cX5_eventIn 43 = .ok (.iload_n 3, 1) := by decide +kernel
theorem dX5_eventIn_44 : decode cX5_eventIn 44 = .ok (.istore_n 3, 1) := by decide +kernel
theorem dX5_eventIn_45 : decode cX5_eventIn 45 = .ok (.iinc 4 1, 3) := by decide +kernel
theorem dX5_eventIn_48 : decode cX5_eventIn 48 = .ok (.goto (-43), 3) := by decide +kernel
theorem dX5_eventIn_51 : decode cX5_eventIn 51 = .ok (.iload_n 3, 1) := by decide +kernel
theorem dX5_eventIn_52 : decode cX5_eventIn 52 = .ok (.ireturn, 1) := by decide +kernel
set_option maxRecDepth 20000 in
theorem ggX5_stretch_X5_book : GoodIn wsX5_stretch wsX5_book := goodIn_r _ [15, 16, 17, 18, 19, 20, 21, 22, 23, 24, 25, 26, 27, 28, 29, 30, 31, 32, 33, 34, 35, 36, 37, 38, 39, 40, 41, 42, 43, 44, 45, 46, 47, 48, 49, 50, 51, 52, 53, 54] (by decide +kernel) (by decide +kernel)
set_option maxRecDepth 20000 in
theorem gX5_stretch_X5_book : GoodIn wsX5_stretch (wsV RX5 75 RX5 yX5_book wsX5_book) := goodIn_app (goodIn_of _ (by decide +kernel)) ggX5_stretch_X5_book
theorem dX5_stretch_0 : decode cX5_stretch 0 = .ok (.aload_n 0, 1) := by decide +kernel
theorem dX5_stretch_1 : decode cX5_stretch 1 = .ok (.aload_n 0, 1) := by decide +kernel
theorem dX5_stretch_2 : decode cX5_stretch 2 = .ok (.invokevirtual 75, 3) := by decide +kernel
theorem dX5_stretch_5 : decode cX5_stretch 5 = .ok (.aload_n 0, 1) := by decide +kernel
theorem dX5_stretch_6 : decode cX5_stretch 6 = .ok (.getfield 79, 3) := by decide +kernel
theorem dX5_stretch_9 : decode cX5_stretch 9 = .ok (.lcmp, 1) := by decide +kernel
theorem dX5_stretch_10 : decode cX5_stretch 10 = .ok (.ifCond .le 15, 3) := by decide +kernel
theorem dX5_stretch_13 : decode cX5_stretch 13 = .ok (.aload_n 0, 1) := by decide +kernel
theorem dX5_stretch_14 : decode cX5_stretch 14 = .ok (.invokevirtual 75, 3) := by decide +kernel
theorem dX5_stretch_17 : decode cX5_stretch 17 = .ok (.aload_n 0, 1) := by decide +kernel
theorem dX5_stretch_18 : decode cX5_stretch 18 = .ok (.getfield 79, 3) := by decide +kernel
theorem dX5_stretch_21 : decode cX5_stretch 21 = .ok (.lsub, 1) := by decide +kernel
theorem dX5_stretch_22 : decode cX5_stretch 22 = .ok (.goto 4, 3) := by decide +kernel
theorem dX5_stretch_25 : decode cX5_stretch 25 = .ok (.lconst 0, 1) := by decide +kernel
theorem dX5_stretch_26 : decode cX5_stretch 26 = .ok (.putfield 82, 3) := by decide +kernel
theorem dX5_stretch_29 : decode cX5_stretch 29 = .ok (.aload_n 0, 1) := by decide +kernel
theorem dX5_stretch_30 : decode cX5_stretch 30 = .ok (.aload_n 0, 1) := by decide +kernel
theorem dX5_stretch_31 : decode cX5_stretch 31 = .ok (.getfield 85, 3) := by decide +kernel
theorem dX5_stretch_34 : decode cX5_stretch 34 = .ok (.putfield 88, 3) := by decide +kernel
theorem dX5_stretch_37 : decode cX5_stretch 37 = .ok (.aload_n 0, 1) := by decide +kernel
theorem dX5_stretch_38 : decode cX5_stretch 38 = .ok (.aload_n 0, 1) := by decide +kernel
theorem dX5_stretch_39 : decode cX5_stretch 39 = .ok (.getfield 26, 3) := by decide +kernel
theorem dX5_stretch_42 : decode cX5_stretch 42 = .ok (.iload_n 1, 1) := by decide +kernel
theorem dX5_stretch_43 : decode cX5_stretch 43 = .ok (.iaload, 1) := by decide +kernel
theorem dX5_stretch_44 : decode cX5_stretch 44 = .ok (.aload_n 0, 1) := by decide +kernel
theorem dX5_stretch_45 : decode cX5_stretch 45 = .ok (.getfield 91, 3) := by decide +kernel
theorem dX5_stretch_48 : decode cX5_stretch 48 = .ok (.if_icmp .le 17, 3) := by decide +kernel
theorem dX5_stretch_51 : decode cX5_stretch 51 = .ok (.aload_n 0, 1) := by decide +kernel
theorem dX5_stretch_52 : decode cX5_stretch 52 = .ok (.getfield 26, 3) := by decide +kernel
theorem dX5_stretch_55 : decode cX5_stretch 55 = .ok (.iload_n 1, 1) := by decide +kernel
theorem dX5_stretch_56 : decode cX5_stretch 56 = .ok (.iaload, 1) := by decide +kernel
theorem dX5_stretch_57 : decode cX5_stretch 57 = .ok (.aload_n 0, 1) := by decide +kernel
theorem dX5_stretch_58 : decode cX5_stretch 58 = .ok (.getfield 91, 3) := by decide +kernel
theorem dX5_stretch_61 : decode cX5_stretch 61 = .ok (.isub, 1) := by decide +kernel
theorem dX5_stretch_62 : decode cX5_stretch 62 = .ok (.goto 4, 3) := by decide +kernel
theorem dX5_stretch_65 : decode cX5_stretch 65 = .ok (.iconst 0, 1) := by decide +kernel
theorem dX5_stretch_66 : decode cX5_stretch 66 = .ok (.putfield 94, 3) := by decide +kernel
theorem dX5_stretch_69 : decode cX5_stretch 69 = .ok (.aload_n 0, 1) := by decide +kernel
theorem dX5_stretch_70 : decode cX5_stretch 70 = .ok (.iconst 0, 1) := by decide +kernel
theorem dX5_stretch_71 : decode cX5_stretch 71 = .ok (.putfield 97, 3) := by decide +kernel
theorem dX5_stretch_74 : decode cX5_stretch 74 = .ok (.aload_n 0, 1) := by decide +kernel
theorem dX5_stretch_75 : decode cX5_stretch 75 = .ok (.iconst 0, 1) := by decide +kernel
theorem dX5_stretch_76 : decode cX5_stretch 76 = .ok (.putfield 100, 3) := by decide +kernel
theorem dX5_stretch_79 : decode cX5_stretch 79 = .ok (.aload_n 0, 1) := by decide +kernel
theorem dX5_stretch_80 : decode cX5_stretch 80 = .ok (.lconst 0, 1) := by decide +kernel
theorem dX5_stretch_81 : decode cX5_stretch 81 = .ok (.putfield 103, 3) := by decide +kernel
theorem dX5_stretch_84 : decode cX5_stretch 84 = .ok (.return_, 1) := by decide +kernel
theorem dX5_fall_0 : decode cX5_fall 0 = .ok (.lload_n 1, 1) := by decide +kernel
theorem dX5_fall_1 : decode cX5_fall 1 = .ok (.aload_n 0, 1) := by decide +kernel
theorem dX5_fall_2 : decode cX5_fall 2 = .ok (.getfield 106, 3) := by decide +kernel
theorem dX5_fall_5 : decode cX5_fall 5 = .ok (.lcmp, 1) := by decide +kernel
theorem dX5_fall_6 : decode cX5_fall 6 = .ok (.ifCond .ge 7, 3) := by decide +kernel
theorem dX5_fall_9 : decode cX5_fall 9 = .ok (.lload_n 1, 1) := by decide +kernel
theorem dX5_fall_10 : decode cX5_fall 10 = .ok (.goto 7, 3) := by decide +kernel
theorem dX5_fall_13 : decode cX5_fall 13 = .ok (.aload_n 0, 1) := by decide +kernel
theorem dX5_fall_14 : decode cX5_fall 14 = .ok (.getfield 106, 3) := by decide +kernel
theorem dX5_fall_17 : decode cX5_fall 17 = .ok (.lstore_n 3, 1) := by decide +kernel
theorem dX5_fall_18 : decode cX5_fall 18 = .ok (.aload_n 0, 1) := by decide +kernel
theorem dX5_fall_19 : decode cX5_fall 19 = .ok (.aload_n 0, 1) := by decide +kernel
theorem dX5_fall_20 : decode cX5_fall 20 = .ok (.getfield 106, 3) := by decide +kernel
theorem dX5_fall_23 : decode cX5_fall 23 = .ok (.lload_n 3, 1) := by decide +kernel
theorem dX5_fall_24 : decode cX5_fall 24 = .ok (.lsub, 1) := by decide +kernel
theorem dX5_fall_25 : decode cX5_fall 25 = .ok (.putfield 106, 3) := by decide +kernel
theorem dX5_fall_28 : decode cX5_fall 28 = .ok (.aload_n 0, 1) := by decide +kernel
theorem dX5_fall_29 : decode cX5_fall 29 = .ok (.aload_n 0, 1) := by decide +kernel
theorem dX5_fall_30 : decode cX5_fall 30 = .ok (.getfield 109, 3) := by decide +kernel
theorem dX5_fall_33 : decode cX5_fall 33 = .ok (.lload_n 1, 1) := by decide +kernel
theorem dX5_fall_34 : decode cX5_fall 34 = .ok (.ladd, 1) := by decide +kernel
theorem dX5_fall_35 : decode cX5_fall 35 = .ok (.lload_n 3, 1) := by decide +kernel
theorem dX5_fall_36 : decode cX5_fall 36 = .ok (.lsub, 1) := by decide +kernel
theorem dX5_fall_37 : decode cX5_fall 37 = .ok (.putfield 109, 3) := by decide +kernel
theorem dX5_fall_40 : decode cX5_fall 40 = .ok (.return_, 1) := by decide +kernel
set_option maxRecDepth 20000 in
theorem ggX5_impairs_X5_book : GoodIn wsX5_impairs wsX5_book := goodIn_r _ [7, 1, 2, 14, 15, 16, 17, 18, 19, 20, 21, 22, 23, 24, 25, 26, 27, 28, 29, 30, 31, 32, 33, 34, 35, 36, 37, 38, 39, 40, 41, 42, 43, 44, 45, 46, 47, 48, 49, 50] (by decide +kernel) (by decide +kernel)
set_option maxRecDepth 20000 in
theorem gX5_impairs_X5_book : GoodIn wsX5_impairs (wsV RX5 75 RX5 yX5_book wsX5_book) := goodIn_app (goodIn_of _ (by decide +kernel)) ggX5_impairs_X5_book
set_option maxRecDepth 20000 in
theorem ggX5_impairs_X5_fall : GoodIn wsX5_impairs wsX5_fall := goodIn_r _ [11, 12, 13, 14, 15, 16, 17, 18, 19, 20, 21, 22, 23, 24, 25, 26, 27, 28, 29, 30, 31, 32, 33, 34, 35, 36, 37, 38, 39, 40, 41, 42, 43, 44, 45, 46, 47, 48, 49, 50] (by decide +kernel) (by decide +kernel)
set_option maxRecDepth 20000 in
theorem gX5_impairs_X5_fall : GoodIn wsX5_impairs (wsV RX5 112 RX5 yX5_fall wsX5_fall) := goodIn_app (goodIn_of _ (by decide +kernel)) ggX5_impairs_X5_fall
theorem dX5_impairs_0 : decode cX5_impairs 0 = .ok (.lload_n 1, 1) := by decide +kernel
theorem dX5_impairs_1 : decode cX5_impairs 1 = .ok (.aload_n 0, 1) := by decide +kernel
theorem dX5_impairs_2 : decode cX5_impairs 2 = .ok (.invokevirtual 75, 3) := by decide +kernel
theorem dX5_impairs_5 : decode cX5_impairs 5 = .ok (.lcmp, 1) := by decide +kernel
theorem dX5_impairs_6 : decode cX5_impairs 6 = .ok (.ifCond .lt 5, 3) := by decide +kernel
theorem dX5_impairs_9 : decode cX5_impairs 9 = .ok (.iconst 0, 1) := by decide +kernel
theorem dX5_impairs_10 : decode cX5_impairs 10 = .ok (.ireturn, 1) := by decide +kernel
theorem dX5_impairs_11 : decode cX5_impairs 11 = .ok (.aload_n 0, 1) := by decide +kernel
theorem dX5_impairs_12 : decode cX5_impairs 12 = .ok (.aload_n 0, 1) := by decide +kernel
theorem dX5_impairs_13 : decode cX5_impairs 13 = .ok (.invokevirtual 75, 3) := by decide +kernel
theorem dX5_impairs_16 : decode cX5_impairs 16 = .ok (.lload_n 1, 1) := by decide +kernel
theorem dX5_impairs_17 : decode cX5_impairs 17 = .ok (.lsub, 1) := by decide +kernel
theorem dX5_impairs_18 : decode cX5_impairs 18 = .ok (.invokevirtual 112, 3) := by decide +kernel
theorem dX5_impairs_21 : decode cX5_impairs 21 = .ok (.aload_n 0, 1) := by decide +kernel
theorem dX5_impairs_22 : decode cX5_impairs 22 = .ok (.aload_n 0, 1) := by decide +kernel
theorem dX5_impairs_23 : decode cX5_impairs 23 = .ok (.getfield 65, 3) := by decide +kernel
theorem dX5_impairs_26 : decode cX5_impairs 26 = .ok (.lload_n 1, 1) := by decide +kernel
theorem dX5_impairs_27 : decode cX5_impairs 27 = .ok (.lsub, 1) := by decide +kernel
theorem dX5_impairs_28 : decode cX5_impairs 28 = .ok (.putfield 69, 3) := by decide +kernel
theorem dX5_impairs_31 : decode cX5_impairs 31 = .ok (.iconst 1, 1) := by decide +kernel
theorem dX5_impairs_32 : decode cX5_impairs 32 = .ok (.ireturn, 1) := by decide +kernel
set_option maxRecDepth 20000 in
theorem ggX5_restores_X5_book : GoodIn wsX5_restores wsX5_book := goodIn_r _ [10, 11, 3, 12, 13, 14, 15, 16, 17, 18, 19, 20, 21, 22, 23, 24, 25, 26, 27, 28, 29, 30, 31, 32, 33, 34, 35, 36, 37, 38, 39, 40, 41, 42, 43, 44, 45, 46, 47, 48] (by decide +kernel) (by decide +kernel)
set_option maxRecDepth 20000 in
theorem gX5_restores_X5_book : GoodIn wsX5_restores (wsV RX5 75 RX5 yX5_book wsX5_book) := goodIn_app (goodIn_of _ (by decide +kernel)) ggX5_restores_X5_book
theorem dX5_restores_0 : decode cX5_restores 0 = .ok (.lload_n 1, 1) := by decide +kernel
theorem dX5_restores_1 : decode cX5_restores 1 = .ok (.aload_n 0, 1) := by decide +kernel
theorem dX5_restores_2 : decode cX5_restores 2 = .ok (.invokevirtual 75, 3) := by decide +kernel
theorem dX5_restores_5 : decode cX5_restores 5 = .ok (.lsub, 1) := by decide +kernel
theorem dX5_restores_6 : decode cX5_restores 6 = .ok (.lstore 4, 2) := by decide +kernel
theorem dX5_restores_8 : decode cX5_restores 8 = .ok (.aload_n 0, 1) := by decide +kernel
theorem dX5_restores_9 : decode cX5_restores 9 = .ok (.getfield 116, 3) := by decide +kernel
theorem dX5_restores_12 : decode cX5_restores 12 = .ok (.iload_n 3, 1) := by decide +kernel
theorem dX5_restores_13 : decode cX5_restores 13 = .ok (.if_icmp .le 31, 3) := by decide +kernel
theorem dX5_restores_16 : decode cX5_restores 16 = .ok (.lload 4, 2) := by decide +kernel
theorem dX5_restores_18 : decode cX5_restores 18 = .ok (.lconst 0, 1) := by decide +kernel
theorem dX5_restores_19 : decode cX5_restores 19 = .ok (.lcmp, 1) := by decide +kernel
theorem dX5_restores_20 : decode cX5_restores 20 = .ok (.ifCond .le 24, 3) := by decide +kernel
theorem dX5_restores_23 : decode cX5_restores 23 = .ok (.lload_n 1, 1) := by decide +kernel
theorem dX5_restores_24 : decode cX5_restores 24 = .ok (.aload_n 0, 1) := by decide +kernel
theorem dX5_restores_25 : decode cX5_restores 25 = .ok (.getfield 50, 3) := by decide +kernel
theorem dX5_restores_28 : decode cX5_restores 28 = .ok (.iload_n 3, 1) := by decide +kernel
theorem dX5_restores_29 : decode cX5_restores 29 = .ok (.laload, 1) := by decide +kernel
theorem dX5_restores_30 : decode cX5_restores 30 = .ok (.lcmp, 1) := by decide +kernel
theorem dX5_restores_31 : decode cX5_restores 31 = .ok (.ifCond .gt 13, 3) := by decide +kernel
theorem dX5_restores_34 : decode cX5_restores 34 = .ok (.lload 4, 2) := by decide +kernel
theorem dX5_restores_36 : decode cX5_restores 36 = .ok (.aload_n 0, 1) := by decide +kernel
theorem dX5_restores_37 : decode cX5_restores 37 = .ok (.getfield 69, 3) := by decide +kernel
theorem dX5_restores_40 : decode cX5_restores 40 = .ok (.lcmp, 1) := by decide +kernel
theorem dX5_restores_41 : decode cX5_restores 41 = .ok (.ifCond .le 5, 3) := by decide +kernel
theorem dX5_restores_44 : decode cX5_restores 44 = .ok (.iconst 0, 1) := by decide +kernel
theorem dX5_restores_45 : decode cX5_restores 45 = .ok (.ireturn, 1) := by decide +kernel
theorem dX5_restores_46 : decode cX5_restores 46 = .ok (.aload_n 0, 1) := by decide +kernel
theorem dX5_restores_47 : decode cX5_restores 47 = .ok (.aload_n 0, 1) := by decide +kernel
theorem dX5_restores_48 : decode cX5_restores 48 = .ok (.getfield 69, 3) := by decide +kernel
theorem dX5_restores_51 : decode cX5_restores 51 = .ok (.lload 4, 2) := by decide +kernel
theorem dX5_restores_53 : decode cX5_restores 53 = .ok (.lsub, 1) := by decide +kernel
theorem dX5_restores_54 : decode cX5_restores 54 = .ok (.putfield 69, 3) := by decide +kernel
theorem dX5_restores_57 : decode cX5_restores 57 = .ok (.aload_n 0, 1) := by decide +kernel
theorem dX5_restores_58 : decode cX5_restores 58 = .ok (.aload_n 0, 1) := by decide +kernel
theorem dX5_restores_59 : decode cX5_restores 59 = .ok (.getfield 109, 3) := by decide +kernel
theorem dX5_restores_62 : decode cX5_restores 62 = .ok (.lload 4, 2) := by decide +kernel
theorem dX5_restores_64 : decode cX5_restores 64 = .ok (.lcmp, 1) := by decide +kernel
theorem dX5_restores_65 : decode cX5_restores 65 = .ok (.ifCond .le 13, 3) := by decide +kernel
theorem dX5_restores_68 : decode cX5_restores 68 = .ok (.aload_n 0, 1) := by decide +kernel
theorem dX5_restores_69 : decode cX5_restores 69 = .ok (.getfield 109, 3) := by decide +kernel
theorem dX5_restores_72 : decode cX5_restores 72 = .ok (.lload 4, 2) := by decide +kernel
theorem dX5_restores_74 : decode cX5_restores 74 = .ok (.lsub, 1) := by decide +kernel
theorem dX5_restores_75 : decode cX5_restores 75 = .ok (.goto 4, 3) := by decide +kernel
theorem dX5_restores_78 : decode cX5_restores 78 = .ok (.lconst 0, 1) := by decide +kernel
theorem dX5_restores_79 : decode cX5_restores 79 = .ok (.putfield 109, 3) := by decide +kernel
theorem dX5_restores_82 : decode cX5_restores 82 = .ok (.aload_n 0, 1) := by decide +kernel
theorem dX5_restores_83 : decode cX5_restores 83 = .ok (.getfield 79, 3) := by decide +kernel
theorem dX5_restores_86 : decode cX5_restores 86 = .ok (.aload_n 0, 1) := by decide +kernel
theorem dX5_restores_87 : decode cX5_restores 87 = .ok (.invokevirtual 75, 3) := by decide +kernel
theorem dX5_restores_90 : decode cX5_restores 90 = .ok (.lcmp, 1) := by decide +kernel
theorem dX5_restores_91 : decode cX5_restores 91 = .ok (.ifCond .gt 7, 3) := by decide +kernel
theorem dX5_restores_94 : decode cX5_restores 94 = .ok (.iconst 1, 1) := by decide +kernel
theorem dX5_restores_95 : decode cX5_restores 95 = .ok (.goto 4, 3) := by decide +kernel
theorem dX5_restores_98 : decode cX5_restores 98 = .ok (.iconst 0, 1) := by decide +kernel
theorem dX5_restores_99 : decode cX5_restores 99 = .ok (.ireturn, 1) := by decide +kernel
set_option maxRecDepth 20000 in
theorem ggX5_values_X5_book : GoodIn wsX5_values wsX5_book := goodIn_r _ [8, 2, 3, 14, 15, 16, 17, 18, 19, 20, 21, 22, 23, 24, 25, 26, 27, 28, 29, 30, 31, 32, 33, 34, 35, 36, 37, 38, 39, 40, 41, 42, 43, 44, 45, 46, 47, 48, 49, 50] (by decide +kernel) (by decide +kernel)
set_option maxRecDepth 20000 in
theorem gX5_values_X5_book : GoodIn wsX5_values (wsV RX5 75 RX5 yX5_book wsX5_book) := goodIn_app (goodIn_of _ (by decide +kernel)) ggX5_values_X5_book
set_option maxRecDepth 20000 in
theorem ggX5_values_X5_fall : GoodIn wsX5_values wsX5_fall := goodIn_r _ [12, 1, 13, 14, 15, 16, 17, 18, 19, 20, 21, 22, 23, 24, 25, 26, 27, 28, 29, 30, 31, 32, 33, 34, 35, 36, 37, 38, 39, 40, 41, 42, 43, 44, 45, 46, 47, 48, 49, 50] (by decide +kernel) (by decide +kernel)
set_option maxRecDepth 20000 in
theorem gX5_values_X5_fall : GoodIn wsX5_values (wsV RX5 112 RX5 yX5_fall wsX5_fall) := goodIn_app (goodIn_of _ (by decide +kernel)) ggX5_values_X5_fall
theorem dX5_values_0 : decode cX5_values 0 = .ok (.lload_n 1, 1) := by decide +kernel
theorem dX5_values_1 : decode cX5_values 1 = .ok (.aload_n 0, 1) := by decide +kernel
theorem dX5_values_2 : decode cX5_values 2 = .ok (.invokevirtual 75, 3) := by decide +kernel
theorem dX5_values_5 : decode cX5_values 5 = .ok (.lcmp, 1) := by decide +kernel
theorem dX5_values_6 : decode cX5_values 6 = .ok (.ifCond .le 21, 3) := by decide +kernel
theorem dX5_values_9 : decode cX5_values 9 = .ok (.aload_n 0, 1) := by decide +kernel
theorem dX5_values_10 : decode cX5_values 10 = .ok (.aload_n 0, 1) := by decide +kernel
theorem dX5_values_11 : decode cX5_values 11 = .ok (.getfield 106, 3) := by decide +kernel
theorem dX5_values_14 : decode cX5_values 14 = .ok (.lload_n 1, 1) := by decide +kernel
theorem dX5_values_15 : decode cX5_values 15 = .ok (.ladd, 1) := by decide +kernel
theorem dX5_values_16 : decode cX5_values 16 = .ok (.aload_n 0, 1) := by decide +kernel
theorem dX5_values_17 : decode cX5_values 17 = .ok (.invokevirtual 75, 3) := by decide +kernel
theorem dX5_values_20 : decode cX5_values 20 = .ok (.lsub, 1) := by decide +kernel
theorem dX5_values_21 : decode cX5_values 21 = .ok (.putfield 106, 3) := by decide +kernel
theorem dX5_values_24 : decode cX5_values 24 = .ok (.goto 13, 3) := by decide +kernel
theorem dX5_values_27 : decode cX5_values 27 = .ok (.aload_n 0, 1) := by decide +kernel
theorem dX5_values_28 : decode cX5_values 28 = .ok (.aload_n 0, 1) := by decide +kernel
theorem dX5_values_29 : decode cX5_values 29 = .ok (.invokevirtual 75, 3) := by decide +kernel
theorem dX5_values_32 : decode cX5_values 32 = .ok (.lload_n 1, 1) := by decide +kernel
theorem dX5_values_33 : decode cX5_values 33 = .ok (.lsub, 1) := by decide +kernel
theorem dX5_values_34 : decode cX5_values 34 = .ok (.invokevirtual 112, 3) := by decide +kernel
theorem dX5_values_37 : decode cX5_values 37 = .ok (.aload_n 0, 1) := by decide +kernel
theorem dX5_values_38 : decode cX5_values 38 = .ok (.lload_n 1, 1) := by decide +kernel
theorem dX5_values_39 : decode cX5_values 39 = .ok (.putfield 65, 3) := by decide +kernel
theorem dX5_values_42 : decode cX5_values 42 = .ok (.aload_n 0, 1) := by decide +kernel
theorem dX5_values_43 : decode cX5_values 43 = .ok (.lconst 0, 1) := by decide +kernel
theorem dX5_values_44 : decode cX5_values 44 = .ok (.putfield 69, 3) := by decide +kernel
theorem dX5_values_47 : decode cX5_values 47 = .ok (.return_, 1) := by decide +kernel
set_option maxRecDepth 20000 in
theorem ggX5_less_X5_rounded : GoodIn wsX5_less wsX5_rounded := goodIn_r _ [5, 6] (by decide +kernel) (by decide +kernel)
set_option maxRecDepth 20000 in
theorem gX5_less_X5_rounded : GoodIn wsX5_less (va_wsS RX5 121 yX5_rounded wsX5_rounded) := goodIn_app (goodIn_of _ (by decide +kernel)) ggX5_less_X5_rounded
theorem dX5_less_0 : decode cX5_less 0 = .ok (.lload_n 0, 1) := by decide +kernel
theorem dX5_less_1 : decode cX5_less 1 = .ok (.lload_n 0, 1) := by decide +kernel
theorem dX5_less_2 : decode cX5_less 2 = .ok (.iload_n 2, 1) := by decide +kernel
theorem dX5_less_3 : decode cX5_less 3 = .ok (.i2l, 1) := by decide +kernel
theorem dX5_less_4 : decode cX5_less 4 = .ok (.lmul, 1) := by decide +kernel
theorem dX5_less_5 : decode cX5_less 5 = .ok (.ldc2_w 119, 3) := by decide +kernel
theorem dX5_less_8 : decode cX5_less 8 = .ok (.invokestatic 121, 3) := by decide +kernel
theorem dX5_less_11 : decode cX5_less 11 = .ok (.lsub, 1) := by decide +kernel
theorem dX5_less_12 : decode cX5_less 12 = .ok (.lreturn, 1) := by decide +kernel
set_option maxRecDepth 20000 in
theorem ggX5_sells_X5_less : GoodIn wsX5_sells wsX5_less := goodIn_r _ [10, 11, 12, 13, 9, 14, 15] (by decide +kernel) (by decide +kernel)
set_option maxRecDepth 20000 in
theorem gX5_sells_X5_less : GoodIn wsX5_sells (va_wsS RX5 125 yX5_less wsX5_less) := goodIn_app (goodIn_of _ (by decide +kernel)) ggX5_sells_X5_less
theorem dX5_sells_0 : decode cX5_sells 0 = .ok (.aload_n 0, 1) := by decide +kernel
theorem dX5_sells_1 : decode cX5_sells 1 = .ok (.aload_n 0, 1) := by decide +kernel
theorem dX5_sells_2 : decode cX5_sells 2 = .ok (.getfield 65, 3) := by decide +kernel
theorem dX5_sells_5 : decode cX5_sells 5 = .ok (.iload_n 1, 1) := by decide +kernel
theorem dX5_sells_6 : decode cX5_sells 6 = .ok (.invokestatic 125, 3) := by decide +kernel
theorem dX5_sells_9 : decode cX5_sells 9 = .ok (.putfield 65, 3) := by decide +kernel
theorem dX5_sells_12 : decode cX5_sells 12 = .ok (.aload_n 0, 1) := by decide +kernel
theorem dX5_sells_13 : decode cX5_sells 13 = .ok (.aload_n 0, 1) := by decide +kernel
theorem dX5_sells_14 : decode cX5_sells 14 = .ok (.getfield 69, 3) := by decide +kernel
theorem dX5_sells_17 : decode cX5_sells 17 = .ok (.iload_n 1, 1) := by decide +kernel
theorem dX5_sells_18 : decode cX5_sells 18 = .ok (.invokestatic 125, 3) := by decide +kernel
theorem dX5_sells_21 : decode cX5_sells 21 = .ok (.putfield 69, 3) := by decide +kernel
theorem dX5_sells_24 : decode cX5_sells 24 = .ok (.aload_n 0, 1) := by decide +kernel
theorem dX5_sells_25 : decode cX5_sells 25 = .ok (.aload_n 0, 1) := by decide +kernel
theorem dX5_sells_26 : decode cX5_sells 26 = .ok (.getfield 106, 3) := by decide +kernel
theorem dX5_sells_29 : decode cX5_sells 29 = .ok (.iload_n 1, 1) := by decide +kernel
theorem dX5_sells_30 : decode cX5_sells 30 = .ok (.invokestatic 125, 3) := by decide +kernel
theorem dX5_sells_33 : decode cX5_sells 33 = .ok (.putfield 106, 3) := by decide +kernel
theorem dX5_sells_36 : decode cX5_sells 36 = .ok (.aload_n 0, 1) := by decide +kernel
theorem dX5_sells_37 : decode cX5_sells 37 = .ok (.aload_n 0, 1) := by decide +kernel
theorem dX5_sells_38 : decode cX5_sells 38 = .ok (.getfield 79, 3) := by decide +kernel
theorem dX5_sells_41 : decode cX5_sells 41 = .ok (.iload_n 1, 1) := by decide +kernel
theorem dX5_sells_42 : decode cX5_sells 42 = .ok (.invokestatic 125, 3) := by decide +kernel
theorem dX5_sells_45 : decode cX5_sells 45 = .ok (.putfield 79, 3) := by decide +kernel
theorem dX5_sells_48 : decode cX5_sells 48 = .ok (.aload_n 0, 1) := by decide +kernel
theorem dX5_sells_49 : decode cX5_sells 49 = .ok (.iload_n 1, 1) := by decide +kernel
theorem dX5_sells_50 : decode cX5_sells 50 = .ok (.ldc 129, 2) := by decide +kernel
theorem dX5_sells_52 : decode cX5_sells 52 = .ok (.if_icmp .ne 7, 3) := by decide +kernel
theorem dX5_sells_55 : decode cX5_sells 55 = .ok (.iconst 1, 1) := by decide +kernel
theorem dX5_sells_56 : decode cX5_sells 56 = .ok (.goto 4, 3) := by decide +kernel
theorem dX5_sells_59 : decode cX5_sells 59 = .ok (.iconst 0, 1) := by decide +kernel
theorem dX5_sells_60 : decode cX5_sells 60 = .ok (.putfield 130, 3) := by decide +kernel
theorem dX5_sells_63 : decode cX5_sells 63 = .ok (.return_, 1) := by decide +kernel
set_option maxRecDepth 20000 in
theorem ggX5_happens_X5_book : GoodIn wsX5_happens wsX5_book := goodIn_r _ [13, 5, 14, 48, 49, 50, 51, 52, 53, 54, 55, 56, 57, 58, 59, 60, 61, 62, 63, 64, 65, 66, 67, 68, 69, 70, 71, 72, 73, 74, 75, 76, 77, 78, 79, 80, 81, 82, 83, 84] (by decide +kernel) (by decide +kernel)
set_option maxRecDepth 20000 in
theorem gX5_happens_X5_book : GoodIn wsX5_happens (wsV RX5 75 RX5 yX5_book wsX5_book) := goodIn_app (goodIn_of _ (by decide +kernel)) ggX5_happens_X5_book
set_option maxRecDepth 20000 in
theorem ggX5_happens_X5_values : GoodIn wsX5_happens wsX5_values := goodIn_r _ [18, 19, 5, 14, 9, 10, 11, 12, 13, 20, 21, 22, 23, 24, 48, 49, 50, 51, 52, 53, 54, 55, 56, 57, 58, 59, 60, 61, 62, 63, 64, 65, 66, 67, 68, 69, 70, 71, 72, 73, 74, 75, 76, 77, 78, 79, 80, 81, 82, 83, 84] (by decide +kernel) (by decide +kernel)
set_option maxRecDepth 20000 in
theorem gX5_happens_X5_values : GoodIn wsX5_happens (wsV RX5 137 RX5 yX5_values wsX5_values) := goodIn_app (goodIn_of _ (by decide +kernel)) ggX5_happens_X5_values
set_option maxRecDepth 20000 in
theorem ggX5_happens_X5_impairs : GoodIn wsX5_happens wsX5_impairs := goodIn_r _ [28, 5, 14, 9, 10, 11, 12, 13, 20, 21, 22, 23, 19, 24, 48, 49, 50, 51, 52, 53, 54, 55, 56, 57, 58, 59, 60, 61, 62, 63, 64, 65, 66, 67, 68, 69, 70, 71, 72, 73, 74, 75, 76, 77, 78, 79, 80, 81, 82, 83, 84] (by decide +kernel) (by decide +kernel)
set_option maxRecDepth 20000 in
theorem gX5_happens_X5_impairs : GoodIn wsX5_happens (wsV RX5 140 RX5 yX5_impairs wsX5_impairs) := goodIn_app (goodIn_of _ (by decide +kernel)) ggX5_happens_X5_impairs
set_option maxRecDepth 20000 in
theorem ggX5_happens_X5_restores : GoodIn wsX5_happens wsX5_restores := goodIn_r _ [32, 33, 34, 14, 24, 7, 9, 10, 11, 12, 13, 5, 48, 49, 50, 51, 52, 53, 54, 55, 56, 57, 58, 59, 60, 61, 62, 63, 64, 65, 66, 67, 68, 69, 70, 71, 72, 73, 74, 75, 76, 77, 78, 79, 80, 81, 82, 83, 84] (by decide +kernel) (by decide +kernel)
set_option maxRecDepth 20000 in
theorem gX5_happens_X5_restores : GoodIn wsX5_happens (wsV RX5 144 RX5 yX5_restores wsX5_restores) := goodIn_app (goodIn_of _ (by decide +kernel)) ggX5_happens_X5_restores
set_option maxRecDepth 20000 in
theorem ggX5_happens_X5_sells : GoodIn wsX5_happens wsX5_sells := goodIn_r _ [38, 5, 14, 19, 7, 39, 3, 40, 41, 12, 42, 43, 44, 45, 46, 47, 48, 49, 50, 51, 52, 53, 54, 55, 56, 57, 58, 59, 60, 61, 62, 63, 64, 65, 66, 67, 68, 69, 70, 71, 72, 73, 74, 75, 76, 77, 78, 79, 80, 81, 82, 83, 84] (by decide +kernel) (by decide +kernel)
set_option maxRecDepth 20000 in
theorem gX5_happens_X5_sells : GoodIn wsX5_happens (wsV RX5 148 RX5 yX5_sells wsX5_sells) := goodIn_app (goodIn_of _ (by decide +kernel)) ggX5_happens_X5_sells
theorem dX5_happens_0 : decode cX5_happens 0 = .ok (.aload_n 0, 1) := by decide +kernel
theorem dX5_happens_1 : decode cX5_happens 1 = .ok (.getfield 41, 3) := by decide +kernel
theorem dX5_happens_4 : decode cX5_happens 4 = .ok (.iload_n 1, 1) := by decide +kernel
theorem dX5_happens_5 : decode cX5_happens 5 = .ok (.iaload, 1) := by decide +kernel
theorem dX5_happens_6 : decode cX5_happens 6 = .ok (.istore_n 3, 1) := by decide +kernel
theorem dX5_happens_7 : decode cX5_happens 7 = .ok (.aload_n 0, 1) := by decide +kernel
theorem dX5_happens_8 : decode cX5_happens 8 = .ok (.getfield 44, 3) := by decide +kernel
theorem dX5_happens_11 : decode cX5_happens 11 = .ok (.iload_n 1, 1) := by decide +kernel
theorem dX5_happens_12 : decode cX5_happens 12 = .ok (.laload, 1) := by decide +kernel
theorem dX5_happens_13 : decode cX5_happens 13 = .ok (.lstore 4, 2) := by decide +kernel
theorem dX5_happens_15 : decode cX5_happens 15 = .ok (.aload_n 0, 1) := by decide +kernel
theorem dX5_happens_16 : decode cX5_happens 16 = .ok (.getfield 130, 3) := by decide +kernel
theorem dX5_happens_19 : decode cX5_happens 19 = .ok (.ifCond .ne 21, 3) := by decide +kernel
theorem dX5_happens_22 : decode cX5_happens 22 = .ok (.aload_n 0, 1) := by decide +kernel
theorem dX5_happens_23 : decode cX5_happens 23 = .ok (.getfield 134, 3) := by decide +kernel
theorem dX5_happens_26 : decode cX5_happens 26 = .ok (.ifCond .eq 16, 3) := by decide +kernel
theorem dX5_happens_29 : decode cX5_happens 29 = .ok (.iload_n 3, 1) := by decide +kernel
theorem dX5_happens_30 : decode cX5_happens 30 = .ok (.iconst 5, 1) := by decide +kernel
theorem dX5_happens_31 : decode cX5_happens 31 = .ok (.if_icmp .eq 11, 3) := by decide +kernel
theorem dX5_happens_34 : decode cX5_happens 34 = .ok (.iload_n 3, 1) := by decide +kernel
theorem dX5_happens_35 : decode cX5_happens 35 = .ok (.bipush 7, 2) := by decide +kernel
theorem dX5_happens_37 : decode cX5_happens 37 = .ok (.if_icmp .eq 5, 3) := by decide +kernel
theorem dX5_happens_40 : decode cX5_happens 40 = .ok (.iconst 0, 1) := by decide +kernel
theorem dX5_happens_41 : decode cX5_happens 41 = .ok (.ireturn, 1) := by decide +kernel
theorem dX5_happens_42 : decode cX5_happens 42 = .ok (.iload_n 3, 1) := by decide +kernel
theorem dX5_happens_43 : decode cX5_happens 43 = .ok (.tableswitch 153 0 6 #[41, 77, 111, 119, 126, 134, 146], 41) := by decide +kernel
theorem dX5_happens_84 : decode cX5_happens 84 = .ok (.aload_n 0, 1) := by decide +kernel
theorem dX5_happens_85 : decode cX5_happens 85 = .ok (.aload_n 0, 1) := by decide +kernel
theorem dX5_happens_86 : decode cX5_happens 86 = .ok (.getfield 65, 3) := by decide +kernel
theorem dX5_happens_89 : decode cX5_happens 89 = .ok (.lload 4, 2) := by decide +kernel
theorem dX5_happens_91 : decode cX5_happens 91 = .ok (.ladd, 1) := by decide +kernel
theorem dX5_happens_92 : decode cX5_happens 92 = .ok (.putfield 65, 3) := by decide +kernel
theorem dX5_happens_95 : decode cX5_happens 95 = .ok (.aload_n 0, 1) := by decide +kernel
theorem dX5_happens_96 : decode cX5_happens 96 = .ok (.getfield 85, 3) := by decide +kernel
theorem dX5_happens_99 : decode cX5_happens 99 = .ok (.ifCond .le 19, 3) := by decide +kernel
theorem dX5_happens_102 : decode cX5_happens 102 = .ok (.aload_n 0, 1) := by decide +kernel
theorem dX5_happens_103 : decode cX5_happens 103 = .ok (.getfield 79, 3) := by decide +kernel
theorem dX5_happens_106 : decode cX5_happens 106 = .ok (.aload_n 0, 1) := by decide +kernel
theorem dX5_happens_107 : decode cX5_happens 107 = .ok (.invokevirtual 75, 3) := by decide +kernel
theorem dX5_happens_110 : decode cX5_happens 110 = .ok (.lcmp, 1) := by decide +kernel
theorem dX5_happens_111 : decode cX5_happens 111 = .ok (.ifCond .gt 7, 3) := by decide +kernel
theorem dX5_happens_114 : decode cX5_happens 114 = .ok (.iconst 1, 1) := by decide +kernel
theorem dX5_happens_115 : decode cX5_happens 115 = .ok (.goto 4, 3) := by decide +kernel
theorem dX5_happens_118 : decode cX5_happens 118 = .ok (.iconst 0, 1) := by decide +kernel
theorem dX5_happens_119 : decode cX5_happens 119 = .ok (.ireturn, 1) := by decide +kernel
theorem dX5_happens_120 : decode cX5_happens 120 = .ok (.aload_n 0, 1) := by decide +kernel
theorem dX5_happens_121 : decode cX5_happens 121 = .ok (.lload 4, 2) := by decide +kernel
theorem dX5_happens_123 : decode cX5_happens 123 = .ok (.putfield 79, 3) := by decide +kernel
theorem dX5_happens_126 : decode cX5_happens 126 = .ok (.aload_n 0, 1) := by decide +kernel
theorem dX5_happens_127 : decode cX5_happens 127 = .ok (.aload_n 0, 1) := by decide +kernel
theorem dX5_happens_128 : decode cX5_happens 128 = .ok (.getfield 47, 3) := by decide +kernel
theorem dX5_happens_131 : decode cX5_happens 131 = .ok (.iload_n 1, 1) := by decide +kernel
theorem dX5_happens_132 : decode cX5_happens 132 = .ok (.iaload, 1) := by decide +kernel
theorem dX5_happens_133 : decode cX5_happens 133 = .ok (.putfield 85, 3) := by decide +kernel
theorem dX5_happens_136 : decode cX5_happens 136 = .ok (.aload_n 0, 1) := by decide +kernel
theorem dX5_happens_137 : decode cX5_happens 137 = .ok (.getfield 79, 3) := by decide +kernel
theorem dX5_happens_140 : decode cX5_happens 140 = .ok (.aload_n 0, 1) := by decide +kernel
theorem dX5_happens_141 : decode cX5_happens 141 = .ok (.invokevirtual 75, 3) := by decide +kernel
theorem dX5_happens_144 : decode cX5_happens 144 = .ok (.lcmp, 1) := by decide +kernel
theorem dX5_happens_145 : decode cX5_happens 145 = .ok (.ifCond .gt 7, 3) := by decide +kernel
theorem dX5_happens_148 : decode cX5_happens 148 = .ok (.iconst 1, 1) := by decide +kernel
theorem dX5_happens_149 : decode cX5_happens 149 = .ok (.goto 4, 3) := by decide +kernel
theorem dX5_happens_152 : decode cX5_happens 152 = .ok (.iconst 0, 1) := by decide +kernel
theorem dX5_happens_153 : decode cX5_happens 153 = .ok (.ireturn, 1) := by decide +kernel
theorem dX5_happens_154 : decode cX5_happens 154 = .ok (.aload_n 0, 1) := by decide +kernel
theorem dX5_happens_155 : decode cX5_happens 155 = .ok (.lload 4, 2) := by decide +kernel
theorem dX5_happens_157 : decode cX5_happens 157 = .ok (.invokevirtual 137, 3) := by decide +kernel
theorem dX5_happens_160 : decode cX5_happens 160 = .ok (.iconst 1, 1) := by decide +kernel
theorem dX5_happens_161 : decode cX5_happens 161 = .ok (.ireturn, 1) := by decide +kernel
theorem dX5_happens_162 : decode cX5_happens 162 = .ok (.aload_n 0, 1) := by decide +kernel
theorem dX5_happens_163 : decode cX5_happens 163 = .ok (.lload 4, 2) := by decide +kernel
theorem dX5_happens_165 : decode cX5_happens 165 = .ok (.invokevirtual 140, 3) := by decide +kernel
theorem dX5_happens_168 : decode cX5_happens 168 = .ok (.ireturn, 1) := by decide +kernel
theorem dX5_happens_169 : decode cX5_happens 169 = .ok (.aload_n 0, 1) := by decide +kernel
theorem dX5_happens_170 : decode cX5_happens 170 = .ok (.lload 4, 2) := by decide +kernel
theorem dX5_happens_172 : decode cX5_happens 172 = .ok (.iload_n 2, 1) := by decide +kernel
theorem dX5_happens_173 : decode cX5_happens 173 = .ok (.invokevirtual 144, 3) := by decide +kernel
theorem dX5_happens_176 : decode cX5_happens 176 = .ok (.ireturn, 1) := by decide +kernel
theorem dX5_happens_177 : decode cX5_happens 177 = .ok (.aload_n 0, 1) := by decide +kernel
theorem dX5_happens_178 : decode cX5_happens 178 = .ok (.aload_n 0, 1) := by decide +kernel
theorem dX5_happens_179 : decode cX5_happens 179 = .ok (.getfield 47, 3) := by decide +kernel
theorem dX5_happens_182 : decode cX5_happens 182 = .ok (.iload_n 1, 1) := by decide +kernel
theorem dX5_happens_183 : decode cX5_happens 183 = .ok (.iaload, 1) := by decide +kernel
theorem dX5_happens_184 : decode cX5_happens 184 = .ok (.invokevirtual 148, 3) := by decide +kernel
theorem dX5_happens_187 : decode cX5_happens 187 = .ok (.iconst 1, 1) := by decide +kernel
theorem dX5_happens_188 : decode cX5_happens 188 = .ok (.ireturn, 1) := by decide +kernel
theorem dX5_happens_189 : decode cX5_happens 189 = .ok (.aload_n 0, 1) := by decide +kernel
theorem dX5_happens_190 : decode cX5_happens 190 = .ok (.iconst 1, 1) := by decide +kernel
theorem dX5_happens_191 : decode cX5_happens 191 = .ok (.putfield 134, 3) := by decide +kernel
theorem dX5_happens_194 : decode cX5_happens 194 = .ok (.iconst 1, 1) := by decide +kernel
theorem dX5_happens_195 : decode cX5_happens 195 = .ok (.ireturn, 1) := by decide +kernel
theorem dX5_happens_196 : decode cX5_happens 196 = .ok (.aload_n 0, 1) := by decide +kernel
theorem dX5_happens_197 : decode cX5_happens 197 = .ok (.getfield 134, 3) := by decide +kernel
theorem dX5_happens_200 : decode cX5_happens 200 = .ok (.istore 6, 2) := by decide +kernel
theorem dX5_happens_202 : decode cX5_happens 202 = .ok (.aload_n 0, 1) := by decide +kernel
theorem dX5_happens_203 : decode cX5_happens 203 = .ok (.iconst 0, 1) := by decide +kernel
theorem dX5_happens_204 : decode cX5_happens 204 = .ok (.putfield 134, 3) := by decide +kernel
theorem dX5_happens_207 : decode cX5_happens 207 = .ok (.iload 6, 2) := by decide +kernel
theorem dX5_happens_209 : decode cX5_happens 209 = .ok (.ireturn, 1) := by decide +kernel
set_option maxRecDepth 20000 in
theorem ggX5_together_X5_rounded : GoodIn wsX5_together wsX5_rounded := goodIn_r _ [11, 5] (by decide +kernel) (by decide +kernel)
set_option maxRecDepth 20000 in
theorem gX5_together_X5_rounded : GoodIn wsX5_together (va_wsS RX5 121 yX5_rounded wsX5_rounded) := goodIn_app (goodIn_of _ (by decide +kernel)) ggX5_together_X5_rounded
theorem dX5_together_0 : decode cX5_together 0 = .ok (.aload_n 0, 1) := by decide +kernel
theorem dX5_together_1 : decode cX5_together 1 = .ok (.getfield 23, 3) := by decide +kernel
theorem dX5_together_4 : decode cX5_together 4 = .ok (.iload_n 1, 1) := by decide +kernel
theorem dX5_together_5 : decode cX5_together 5 = .ok (.iaload, 1) := by decide +kernel
theorem dX5_together_6 : decode cX5_together 6 = .ok (.ifCond .ne 22, 3) := by decide +kernel
theorem dX5_together_9 : decode cX5_together 9 = .ok (.aload_n 0, 1) := by decide +kernel
theorem dX5_together_10 : decode cX5_together 10 = .ok (.getfield 82, 3) := by decide +kernel
theorem dX5_together_13 : decode cX5_together 13 = .ok (.aload_n 0, 1) := by decide +kernel
theorem dX5_together_14 : decode cX5_together 14 = .ok (.getfield 97, 3) := by decide +kernel
theorem dX5_together_17 : decode cX5_together 17 = .ok (.i2l, 1) := by decide +kernel
theorem dX5_together_18 : decode cX5_together 18 = .ok (.lmul, 1) := by decide +kernel
theorem dX5_together_19 : decode cX5_together 19 = .ok (.aload_n 0, 1) := by decide +kernel
theorem dX5_together_20 : decode cX5_together 20 = .ok (.getfield 88, 3) := by decide +kernel
theorem dX5_together_23 : decode cX5_together 23 = .ok (.i2l, 1) := by decide +kernel
theorem dX5_together_24 : decode cX5_together 24 = .ok (.invokestatic 121, 3) := by decide +kernel
theorem dX5_together_27 : decode cX5_together 27 = .ok (.lreturn, 1) := by decide +kernel
theorem dX5_together_28 : decode cX5_together 28 = .ok (.aload_n 0, 1) := by decide +kernel
theorem dX5_together_29 : decode cX5_together 29 = .ok (.getfield 23, 3) := by decide +kernel
theorem dX5_together_32 : decode cX5_together 32 = .ok (.iload_n 1, 1) := by decide +kernel
theorem dX5_together_33 : decode cX5_together 33 = .ok (.iaload, 1) := by decide +kernel
theorem dX5_together_34 : decode cX5_together 34 = .ok (.iconst 2, 1) := by decide +kernel
theorem dX5_together_35 : decode cX5_together 35 = .ok (.if_icmp .ne 60, 3) := by decide +kernel
theorem dX5_together_38 : decode cX5_together 38 = .ok (.aload_n 0, 1) := by decide +kernel
theorem dX5_together_39 : decode cX5_together 39 = .ok (.getfield 97, 3) := by decide +kernel
theorem dX5_together_42 : decode cX5_together 42 = .ok (.i2l, 1) := by decide +kernel
theorem dX5_together_43 : decode cX5_together 43 = .ok (.aload_n 0, 1) := by decide +kernel
theorem dX5_together_44 : decode cX5_together 44 = .ok (.getfield 88, 3) := by decide +kernel
theorem dX5_together_47 : decode cX5_together 47 = .ok (.i2l, 1) := by decide +kernel
theorem dX5_together_48 : decode cX5_together 48 = .ok (.lmul, 1) := by decide +kernel
theorem dX5_together_49 : decode cX5_together 49 = .ok (.aload_n 0, 1) := by decide +kernel
theorem dX5_together_50 : decode cX5_together 50 = .ok (.getfield 97, 3) := by decide +kernel
theorem dX5_together_53 : decode cX5_together 53 = .ok (.i2l, 1) := by decide +kernel
theorem dX5_together_54 : decode cX5_together 54 = .ok (.aload_n 0, 1) := by decide +kernel
theorem dX5_together_55 : decode cX5_together 55 = .ok (.getfield 97, 3) := by decide +kernel
theorem dX5_together_58 : decode cX5_together 58 = .ok (.iconst 1, 1) := by decide +kernel
theorem dX5_together_59 : decode cX5_together 59 = .ok (.isub, 1) := by decide +kernel
theorem dX5_together_60 : decode cX5_together 60 = .ok (.i2l, 1) := by decide +kernel
theorem dX5_together_61 : decode cX5_together 61 = .ok (.lmul, 1) := by decide +kernel
theorem dX5_together_62 : decode cX5_together 62 = .ok (.ldc2_w 60, 3) := by decide +kernel
theorem dX5_together_65 : decode cX5_together 65 = .ok (.ldiv, 1) := by decide +kernel
theorem dX5_together_66 : decode cX5_together 66 = .ok (.lsub, 1) := by decide +kernel
theorem dX5_together_67 : decode cX5_together 67 = .ok (.lstore_n 2, 1) := by decide +kernel
theorem dX5_together_68 : decode cX5_together 68 = .ok (.aload_n 0, 1) := by decide +kernel
theorem dX5_together_69 : decode cX5_together 69 = .ok (.getfield 82, 3) := by decide +kernel
theorem dX5_together_72 : decode cX5_together 72 = .ok (.lload_n 2, 1) := by decide +kernel
theorem dX5_together_73 : decode cX5_together 73 = .ok (.lmul, 1) := by decide +kernel
theorem dX5_together_74 : decode cX5_together 74 = .ok (.aload_n 0, 1) := by decide +kernel
theorem dX5_together_75 : decode cX5_together 75 = .ok (.getfield 88, 3) := by decide +kernel
theorem dX5_together_78 : decode cX5_together 78 = .ok (.i2l, 1) := by decide +kernel
theorem dX5_together_79 : decode cX5_together 79 = .ok (.aload_n 0, 1) := by decide +kernel
theorem dX5_together_80 : decode cX5_together 80 = .ok (.getfield 88, 3) := by decide +kernel
theorem dX5_together_83 : decode cX5_together 83 = .ok (.iconst 1, 1) := by decide +kernel
theorem dX5_together_84 : decode cX5_together 84 = .ok (.iadd, 1) := by decide +kernel
theorem dX5_together_85 : decode cX5_together 85 = .ok (.i2l, 1) := by decide +kernel
theorem dX5_together_86 : decode cX5_together 86 = .ok (.lmul, 1) := by decide +kernel
theorem dX5_together_87 : decode cX5_together 87 = .ok (.ldc2_w 60, 3) := by decide +kernel
theorem dX5_together_90 : decode cX5_together 90 = .ok (.ldiv, 1) := by decide +kernel
theorem dX5_together_91 : decode cX5_together 91 = .ok (.invokestatic 121, 3) := by decide +kernel
theorem dX5_together_94 : decode cX5_together 94 = .ok (.lreturn, 1) := by decide +kernel
theorem dX5_together_95 : decode cX5_together 95 = .ok (.aload_n 0, 1) := by decide +kernel
theorem dX5_together_96 : decode cX5_together 96 = .ok (.getfield 100, 3) := by decide +kernel
theorem dX5_together_99 : decode cX5_together 99 = .ok (.aload_n 0, 1) := by decide +kernel
theorem dX5_together_100 : decode cX5_together 100 = .ok (.getfield 94, 3) := by decide +kernel
theorem dX5_together_103 : decode cX5_together 103 = .ok (.if_icmp .ge 10, 3) := by decide +kernel
theorem dX5_together_106 : decode cX5_together 106 = .ok (.aload_n 0, 1) := by decide +kernel
theorem dX5_together_107 : decode cX5_together 107 = .ok (.getfield 100, 3) := by decide +kernel
theorem dX5_together_110 : decode cX5_together 110 = .ok (.goto 7, 3) := by decide +kernel
theorem dX5_together_113 : decode cX5_together 113 = .ok (.aload_n 0, 1) := by decide +kernel
theorem dX5_together_114 : decode cX5_together 114 = .ok (.getfield 94, 3) := by decide +kernel
theorem dX5_together_117 : decode cX5_together 117 = .ok (.istore_n 2, 1) := by decide +kernel
theorem dX5_together_118 : decode cX5_together 118 = .ok (.aload_n 0, 1) := by decide +kernel
theorem dX5_together_119 : decode cX5_together 119 = .ok (.getfield 94, 3) := by decide +kernel
theorem dX5_together_122 : decode cX5_together 122 = .ok (.ifCond .ne 10, 3) := by decide +kernel
theorem dX5_together_125 : decode cX5_together 125 = .ok (.aload_n 0, 1) := by decide +kernel
theorem dX5_together_126 : decode cX5_together 126 = .ok (.getfield 82, 3) := by decide +kernel
theorem dX5_together_129 : decode cX5_together 129 = .ok (.goto 18, 3) := by decide +kernel
theorem dX5_together_132 : decode cX5_together 132 = .ok (.aload_n 0, 1) := by decide +kernel
theorem dX5_together_133 : decode cX5_together 133 = .ok (.getfield 82, 3) := by decide +kernel
theorem dX5_together_136 : decode cX5_together 136 = .ok (.iload_n 2, 1) := by decide +kernel
theorem dX5_together_137 : decode cX5_together 137 = .ok (.i2l, 1) := by decide +kernel
theorem dX5_together_138 : decode cX5_together 138 = .ok (.lmul, 1) := by decide +kernel
theorem dX5_together_139 : decode cX5_together 139 = .ok (.aload_n 0, 1) := by decide +kernel
theorem dX5_together_140 : decode cX5_together 140 = .ok (.getfield 94, 3) := by decide +kernel
theorem dX5_together_143 : decode cX5_together 143 = .ok (.i2l, 1) := by decide +kernel
theorem dX5_together_144 : decode cX5_together 144 = .ok (.invokestatic 121, 3) := by decide +kernel
theorem dX5_together_147 : decode cX5_together 147 = .ok (.lreturn, 1) := by decide +kernel
set_option maxRecDepth 20000 in
theorem ggX5_declining_X5_book : GoodIn wsX5_declining wsX5_book := goodIn_r _ [8, 9, 10, 15, 16, 17, 18, 19, 20, 21, 22, 23, 24, 25, 26, 27, 28, 29, 30, 31, 32, 33, 34, 35, 36, 37, 38, 39, 40, 41, 42, 43, 44, 45, 46, 47, 48, 49, 50, 51] (by decide +kernel) (by decide +kernel)
set_option maxRecDepth 20000 in
theorem gX5_declining_X5_book : GoodIn wsX5_declining (wsV RX5 75 RX5 yX5_book wsX5_book) := goodIn_app (goodIn_of _ (by decide +kernel)) ggX5_declining_X5_book
set_option maxRecDepth 20000 in
theorem ggX5_declining_X5_rounded : GoodIn wsX5_declining wsX5_rounded := goodIn_r _ [13, 14] (by decide +kernel) (by decide +kernel)
set_option maxRecDepth 20000 in
theorem gX5_declining_X5_rounded : GoodIn wsX5_declining (va_wsS RX5 121 yX5_rounded wsX5_rounded) := goodIn_app (goodIn_of _ (by decide +kernel)) ggX5_declining_X5_rounded
theorem dX5_declining_0 : decode cX5_declining 0 = .ok (.aload_n 0, 1) := by decide +kernel
theorem dX5_declining_1 : decode cX5_declining 1 = .ok (.invokevirtual 75, 3) := by decide +kernel
theorem dX5_declining_4 : decode cX5_declining 4 = .ok (.aload_n 0, 1) := by decide +kernel
theorem dX5_declining_5 : decode cX5_declining 5 = .ok (.getfield 79, 3) := by decide +kernel
theorem dX5_declining_8 : decode cX5_declining 8 = .ok (.lsub, 1) := by decide +kernel
theorem dX5_declining_9 : decode cX5_declining 9 = .ok (.lstore_n 3, 1) := by decide +kernel
theorem dX5_declining_10 : decode cX5_declining 10 = .ok (.lload_n 3, 1) := by decide +kernel
theorem dX5_declining_11 : decode cX5_declining 11 = .ok (.lconst 0, 1) := by decide +kernel
theorem dX5_declining_12 : decode cX5_declining 12 = .ok (.lcmp, 1) := by decide +kernel
theorem dX5_declining_13 : decode cX5_declining 13 = .ok (.ifCond .gt 5, 3) := by decide +kernel
theorem dX5_declining_16 : decode cX5_declining 16 = .ok (.lconst 0, 1) := by decide +kernel
theorem dX5_declining_17 : decode cX5_declining 17 = .ok (.lreturn, 1) := by decide +kernel
theorem dX5_declining_18 : decode cX5_declining 18 = .ok (.aload_n 0, 1) := by decide +kernel
theorem dX5_declining_19 : decode cX5_declining 19 = .ok (.invokevirtual 75, 3) := by decide +kernel
theorem dX5_declining_22 : decode cX5_declining 22 = .ok (.aload_n 0, 1) := by decide +kernel
theorem dX5_declining_23 : decode cX5_declining 23 = .ok (.getfield 26, 3) := by decide +kernel
theorem dX5_declining_26 : decode cX5_declining 26 = .ok (.iload_n 1, 1) := by decide +kernel
theorem dX5_declining_27 : decode cX5_declining 27 = .ok (.iaload, 1) := by decide +kernel
theorem dX5_declining_28 : decode cX5_declining 28 = .ok (.i2l, 1) := by decide +kernel
theorem dX5_declining_29 : decode cX5_declining 29 = .ok (.lmul, 1) := by decide +kernel
theorem dX5_declining_30 : decode cX5_declining 30 = .ok (.ldc2_w 119, 3) := by decide +kernel
theorem dX5_declining_33 : decode cX5_declining 33 = .ok (.invokestatic 121, 3) := by decide +kernel
theorem dX5_declining_36 : decode cX5_declining 36 = .ok (.lstore 5, 2) := by decide +kernel
theorem dX5_declining_38 : decode cX5_declining 38 = .ok (.lload_n 3, 1) := by decide +kernel
theorem dX5_declining_39 : decode cX5_declining 39 = .ok (.iload_n 2, 1) := by decide +kernel
theorem dX5_declining_40 : decode cX5_declining 40 = .ok (.i2l, 1) := by decide +kernel
theorem dX5_declining_41 : decode cX5_declining 41 = .ok (.invokestatic 121, 3) := by decide +kernel
theorem dX5_declining_44 : decode cX5_declining 44 = .ok (.lstore 7, 2) := by decide +kernel
theorem dX5_declining_46 : decode cX5_declining 46 = .ok (.lload 5, 2) := by decide +kernel
theorem dX5_declining_48 : decode cX5_declining 48 = .ok (.lload 7, 2) := by decide +kernel
theorem dX5_declining_50 : decode cX5_declining 50 = .ok (.lcmp, 1) := by decide +kernel
theorem dX5_declining_51 : decode cX5_declining 51 = .ok (.ifCond .le 8, 3) := by decide +kernel
theorem dX5_declining_54 : decode cX5_declining 54 = .ok (.lload 5, 2) := by decide +kernel
theorem dX5_declining_56 : decode cX5_declining 56 = .ok (.goto 5, 3) := by decide +kernel
theorem dX5_declining_59 : decode cX5_declining 59 = .ok (.lload 7, 2) := by decide +kernel
theorem dX5_declining_61 : decode cX5_declining 61 = .ok (.lstore 9, 2) := by decide +kernel
theorem dX5_declining_63 : decode cX5_declining 63 = .ok (.iload_n 2, 1) := by decide +kernel
theorem dX5_declining_64 : decode cX5_declining 64 = .ok (.iconst 1, 1) := by decide +kernel
theorem dX5_declining_65 : decode cX5_declining 65 = .ok (.if_icmp .eq 10, 3) := by decide +kernel
theorem dX5_declining_68 : decode cX5_declining 68 = .ok (.lload 9, 2) := by decide +kernel
theorem dX5_declining_70 : decode cX5_declining 70 = .ok (.lload_n 3, 1) := by decide +kernel
theorem dX5_declining_71 : decode cX5_declining 71 = .ok (.lcmp, 1) := by decide +kernel
theorem dX5_declining_72 : decode cX5_declining 72 = .ok (.ifCond .le 7, 3) := by decide +kernel
theorem dX5_declining_75 : decode cX5_declining 75 = .ok (.lload_n 3, 1) := by decide +kernel
theorem dX5_declining_76 : decode cX5_declining 76 = .ok (.goto 5, 3) := by decide +kernel
theorem dX5_declining_79 : decode cX5_declining 79 = .ok (.lload 9, 2) := by decide +kernel
theorem dX5_declining_81 : decode cX5_declining 81 = .ok (.lreturn, 1) := by decide +kernel
set_option maxRecDepth 20000 in
theorem ggX5_writeOff_X5_declining : GoodIn wsX5_writeOff wsX5_declining := goodIn_r _ [17, 18, 19, 20, 21, 22, 23, 16, 24, 25, 11, 26, 27, 28, 29, 37, 38, 39, 40, 41, 42, 43, 44, 45, 46, 47, 48, 49, 50, 51, 52, 53, 54, 55, 56, 57, 58, 59, 60, 61, 62, 63, 64, 65, 66, 67, 68, 69, 70, 71, 72, 73] (by decide +kernel) (by decide +kernel)
set_option maxRecDepth 20000 in
theorem gX5_writeOff_X5_declining : GoodIn wsX5_writeOff (wsV RX5 155 RX5 yX5_declining wsX5_declining) := goodIn_app (goodIn_of _ (by decide +kernel)) ggX5_writeOff_X5_declining
set_option maxRecDepth 20000 in
theorem ggX5_writeOff_X5_together : GoodIn wsX5_writeOff wsX5_together := goodIn_r _ [33, 6, 34, 5, 35, 29, 7, 36, 26, 27, 16, 28, 37, 38, 39, 40, 41, 42, 43, 44, 45, 46, 47, 48, 49, 50, 51, 52, 53, 54, 55, 56, 57, 58, 59, 60, 61, 62, 63, 64, 65, 66, 67, 68, 69, 70, 71, 72, 73] (by decide +kernel) (by decide +kernel)
set_option maxRecDepth 20000 in
theorem gX5_writeOff_X5_together : GoodIn wsX5_writeOff (wsV RX5 159 RX5 yX5_together wsX5_together) := goodIn_app (goodIn_of _ (by decide +kernel)) ggX5_writeOff_X5_together
theorem dX5_writeOff_0 : decode cX5_writeOff 0 = .ok (.aload_n 0, 1) := by decide +kernel
theorem dX5_writeOff_1 : decode cX5_writeOff 1 = .ok (.lconst 0, 1) := by decide +kernel
theorem dX5_writeOff_2 : decode cX5_writeOff 2 = .ok (.putfield 152, 3) := by decide +kernel
theorem dX5_writeOff_5 : decode cX5_writeOff 5 = .ok (.aload_n 0, 1) := by decide +kernel
theorem dX5_writeOff_6 : decode cX5_writeOff 6 = .ok (.getfield 134, 3) := by decide +kernel
theorem dX5_writeOff_9 : decode cX5_writeOff 9 = .ok (.ifCond .ne 17, 3) := by decide +kernel
theorem dX5_writeOff_12 : decode cX5_writeOff 12 = .ok (.aload_n 0, 1) := by decide +kernel
theorem dX5_writeOff_13 : decode cX5_writeOff 13 = .ok (.getfield 130, 3) := by decide +kernel
theorem dX5_writeOff_16 : decode cX5_writeOff 16 = .ok (.ifCond .ne 10, 3) := by decide +kernel
theorem dX5_writeOff_19 : decode cX5_writeOff 19 = .ok (.aload_n 0, 1) := by decide +kernel
theorem dX5_writeOff_20 : decode cX5_writeOff 20 = .ok (.getfield 85, 3) := by decide +kernel
theorem dX5_writeOff_23 : decode cX5_writeOff 23 = .ok (.ifCond .ne 4, 3) := by decide +kernel
theorem dX5_writeOff_26 : decode cX5_writeOff 26 = .ok (.return_, 1) := by decide +kernel
theorem dX5_writeOff_27 : decode cX5_writeOff 27 = .ok (.aload_n 0, 1) := by decide +kernel
theorem dX5_writeOff_28 : decode cX5_writeOff 28 = .ok (.aload_n 0, 1) := by decide +kernel
theorem dX5_writeOff_29 : decode cX5_writeOff 29 = .ok (.getfield 85, 3) := by decide +kernel
theorem dX5_writeOff_32 : decode cX5_writeOff 32 = .ok (.iconst 1, 1) := by decide +kernel
theorem dX5_writeOff_33 : decode cX5_writeOff 33 = .ok (.isub, 1) := by decide +kernel
theorem dX5_writeOff_34 : decode cX5_writeOff 34 = .ok (.putfield 85, 3) := by decide +kernel
theorem dX5_writeOff_37 : decode cX5_writeOff 37 = .ok (.aload_n 0, 1) := by decide +kernel
theorem dX5_writeOff_38 : decode cX5_writeOff 38 = .ok (.aload_n 0, 1) := by decide +kernel
theorem dX5_writeOff_39 : decode cX5_writeOff 39 = .ok (.getfield 97, 3) := by decide +kernel
theorem dX5_writeOff_42 : decode cX5_writeOff 42 = .ok (.iconst 1, 1) := by decide +kernel
theorem dX5_writeOff_43 : decode cX5_writeOff 43 = .ok (.iadd, 1) := by decide +kernel
theorem dX5_writeOff_44 : decode cX5_writeOff 44 = .ok (.putfield 97, 3) := by decide +kernel
theorem dX5_writeOff_47 : decode cX5_writeOff 47 = .ok (.aload_n 0, 1) := by decide +kernel
theorem dX5_writeOff_48 : decode cX5_writeOff 48 = .ok (.getfield 23, 3) := by decide +kernel
theorem dX5_writeOff_51 : decode cX5_writeOff 51 = .ok (.iload_n 1, 1) := by decide +kernel
theorem dX5_writeOff_52 : decode cX5_writeOff 52 = .ok (.iaload, 1) := by decide +kernel
theorem dX5_writeOff_53 : decode cX5_writeOff 53 = .ok (.iconst 3, 1) := by decide +kernel
theorem dX5_writeOff_54 : decode cX5_writeOff 54 = .ok (.if_icmp .ne 43, 3) := by decide +kernel
theorem dX5_writeOff_57 : decode cX5_writeOff 57 = .ok (.aload_n 0, 1) := by decide +kernel
theorem dX5_writeOff_58 : decode cX5_writeOff 58 = .ok (.aload_n 0, 1) := by decide +kernel
theorem dX5_writeOff_59 : decode cX5_writeOff 59 = .ok (.getfield 100, 3) := by decide +kernel
theorem dX5_writeOff_62 : decode cX5_writeOff 62 = .ok (.aload_n 0, 1) := by decide +kernel
theorem dX5_writeOff_63 : decode cX5_writeOff 63 = .ok (.getfield 29, 3) := by decide +kernel
theorem dX5_writeOff_66 : decode cX5_writeOff 66 = .ok (.bipush 36, 2) := by decide +kernel
theorem dX5_writeOff_68 : decode cX5_writeOff 68 = .ok (.iload_n 1, 1) := by decide +kernel
theorem dX5_writeOff_69 : decode cX5_writeOff 69 = .ok (.imul, 1) := by decide +kernel
theorem dX5_writeOff_70 : decode cX5_writeOff 70 = .ok (.iload_n 2, 1) := by decide +kernel
theorem dX5_writeOff_71 : decode cX5_writeOff 71 = .ok (.iadd, 1) := by decide +kernel
theorem dX5_writeOff_72 : decode cX5_writeOff 72 = .ok (.iaload, 1) := by decide +kernel
theorem dX5_writeOff_73 : decode cX5_writeOff 73 = .ok (.iadd, 1) := by decide +kernel
theorem dX5_writeOff_74 : decode cX5_writeOff 74 = .ok (.putfield 100, 3) := by decide +kernel
theorem dX5_writeOff_77 : decode cX5_writeOff 77 = .ok (.aload_n 0, 1) := by decide +kernel
theorem dX5_writeOff_78 : decode cX5_writeOff 78 = .ok (.aload_n 0, 1) := by decide +kernel
theorem dX5_writeOff_79 : decode cX5_writeOff 79 = .ok (.getfield 91, 3) := by decide +kernel
theorem dX5_writeOff_82 : decode cX5_writeOff 82 = .ok (.aload_n 0, 1) := by decide +kernel
theorem dX5_writeOff_83 : decode cX5_writeOff 83 = .ok (.getfield 29, 3) := by decide +kernel
theorem dX5_writeOff_86 : decode cX5_writeOff 86 = .ok (.bipush 36, 2) := by decide +kernel
theorem dX5_writeOff_88 : decode cX5_writeOff 88 = .ok (.iload_n 1, 1) := by decide +kernel
theorem dX5_writeOff_89 : decode cX5_writeOff 89 = .ok (.imul, 1) := by decide +kernel
theorem dX5_writeOff_90 : decode cX5_writeOff 90 = .ok (.iload_n 2, 1) := by decide +kernel
theorem dX5_writeOff_91 : decode cX5_writeOff 91 = .ok (.iadd, 1) := by decide +kernel
theorem dX5_writeOff_92 : decode cX5_writeOff 92 = .ok (.iaload, 1) := by decide +kernel
theorem dX5_writeOff_93 : decode cX5_writeOff 93 = .ok (.iadd, 1) := by decide +kernel
theorem dX5_writeOff_94 : decode cX5_writeOff 94 = .ok (.putfield 91, 3) := by decide +kernel
theorem dX5_writeOff_97 : decode cX5_writeOff 97 = .ok (.aload_n 0, 1) := by decide +kernel
theorem dX5_writeOff_98 : decode cX5_writeOff 98 = .ok (.getfield 23, 3) := by decide +kernel
theorem dX5_writeOff_101 : decode cX5_writeOff 101 = .ok (.iload_n 1, 1) := by decide +kernel
theorem dX5_writeOff_102 : decode cX5_writeOff 102 = .ok (.iaload, 1) := by decide +kernel
theorem dX5_writeOff_103 : decode cX5_writeOff 103 = .ok (.iconst 1, 1) := by decide +kernel
theorem dX5_writeOff_104 : decode cX5_writeOff 104 = .ok (.if_icmp .ne 21, 3) := by decide +kernel
theorem dX5_writeOff_107 : decode cX5_writeOff 107 = .ok (.aload_n 0, 1) := by decide +kernel
theorem dX5_writeOff_108 : decode cX5_writeOff 108 = .ok (.aload_n 0, 1) := by decide +kernel
theorem dX5_writeOff_109 : decode cX5_writeOff 109 = .ok (.iload_n 1, 1) := by decide +kernel
theorem dX5_writeOff_110 : decode cX5_writeOff 110 = .ok (.aload_n 0, 1) := by decide +kernel
theorem dX5_writeOff_111 : decode cX5_writeOff 111 = .ok (.getfield 85, 3) := by decide +kernel
theorem dX5_writeOff_114 : decode cX5_writeOff 114 = .ok (.iconst 1, 1) := by decide +kernel
theorem dX5_writeOff_115 : decode cX5_writeOff 115 = .ok (.iadd, 1) := by decide +kernel
theorem dX5_writeOff_116 : decode cX5_writeOff 116 = .ok (.invokevirtual 155, 3) := by decide +kernel
theorem dX5_writeOff_119 : decode cX5_writeOff 119 = .ok (.putfield 152, 3) := by decide +kernel
theorem dX5_writeOff_122 : decode cX5_writeOff 122 = .ok (.goto 24, 3) := by decide +kernel
theorem dX5_writeOff_125 : decode cX5_writeOff 125 = .ok (.aload_n 0, 1) := by decide +kernel
theorem dX5_writeOff_126 : decode cX5_writeOff 126 = .ok (.iload_n 1, 1) := by decide +kernel
theorem dX5_writeOff_127 : decode cX5_writeOff 127 = .ok (.invokevirtual 159, 3) := by decide +kernel
theorem dX5_writeOff_130 : decode cX5_writeOff 130 = .ok (.lstore_n 3, 1) := by decide +kernel
theorem dX5_writeOff_131 : decode cX5_writeOff 131 = .ok (.aload_n 0, 1) := by decide +kernel
theorem dX5_writeOff_132 : decode cX5_writeOff 132 = .ok (.lload_n 3, 1) := by decide +kernel
theorem dX5_writeOff_133 : decode cX5_writeOff 133 = .ok (.aload_n 0, 1) := by decide +kernel
theorem dX5_writeOff_134 : decode cX5_writeOff 134 = .ok (.getfield 103, 3) := by decide +kernel
theorem dX5_writeOff_137 : decode cX5_writeOff 137 = .ok (.lsub, 1) := by decide +kernel
theorem dX5_writeOff_138 : decode cX5_writeOff 138 = .ok (.putfield 152, 3) := by decide +kernel
theorem dX5_writeOff_141 : decode cX5_writeOff 141 = .ok (.aload_n 0, 1) := by decide +kernel
theorem dX5_writeOff_142 : decode cX5_writeOff 142 = .ok (.lload_n 3, 1) := by decide +kernel
theorem dX5_writeOff_143 : decode cX5_writeOff 143 = .ok (.putfield 103, 3) := by decide +kernel
theorem dX5_writeOff_146 : decode cX5_writeOff 146 = .ok (.aload_n 0, 1) := by decide +kernel
theorem dX5_writeOff_147 : decode cX5_writeOff 147 = .ok (.aload_n 0, 1) := by decide +kernel
theorem dX5_writeOff_148 : decode cX5_writeOff 148 = .ok (.getfield 69, 3) := by decide +kernel
theorem dX5_writeOff_151 : decode cX5_writeOff 151 = .ok (.aload_n 0, 1) := by decide +kernel
theorem dX5_writeOff_152 : decode cX5_writeOff 152 = .ok (.getfield 152, 3) := by decide +kernel
theorem dX5_writeOff_155 : decode cX5_writeOff 155 = .ok (.ladd, 1) := by decide +kernel
theorem dX5_writeOff_156 : decode cX5_writeOff 156 = .ok (.putfield 69, 3) := by decide +kernel
theorem dX5_writeOff_159 : decode cX5_writeOff 159 = .ok (.aload_n 0, 1) := by decide +kernel
theorem dX5_writeOff_160 : decode cX5_writeOff 160 = .ok (.aload_n 0, 1) := by decide +kernel
theorem dX5_writeOff_161 : decode cX5_writeOff 161 = .ok (.getfield 163, 3) := by decide +kernel
theorem dX5_writeOff_164 : decode cX5_writeOff 164 = .ok (.aload_n 0, 1) := by decide +kernel
theorem dX5_writeOff_165 : decode cX5_writeOff 165 = .ok (.getfield 152, 3) := by decide +kernel
theorem dX5_writeOff_168 : decode cX5_writeOff 168 = .ok (.ladd, 1) := by decide +kernel
theorem dX5_writeOff_169 : decode cX5_writeOff 169 = .ok (.putfield 163, 3) := by decide +kernel
theorem dX5_writeOff_172 : decode cX5_writeOff 172 = .ok (.return_, 1) := by decide +kernel
theorem dX5_clear_0 : decode cX5_clear 0 = .ok (.aload_n 0, 1) := by decide +kernel
theorem dX5_clear_1 : decode cX5_clear 1 = .ok (.lconst 0, 1) := by decide +kernel
theorem dX5_clear_2 : decode cX5_clear 2 = .ok (.putfield 65, 3) := by decide +kernel
theorem dX5_clear_5 : decode cX5_clear 5 = .ok (.aload_n 0, 1) := by decide +kernel
theorem dX5_clear_6 : decode cX5_clear 6 = .ok (.lconst 0, 1) := by decide +kernel
theorem dX5_clear_7 : decode cX5_clear 7 = .ok (.putfield 69, 3) := by decide +kernel
theorem dX5_clear_10 : decode cX5_clear 10 = .ok (.aload_n 0, 1) := by decide +kernel
theorem dX5_clear_11 : decode cX5_clear 11 = .ok (.lconst 0, 1) := by decide +kernel
theorem dX5_clear_12 : decode cX5_clear 12 = .ok (.putfield 106, 3) := by decide +kernel
theorem dX5_clear_15 : decode cX5_clear 15 = .ok (.aload_n 0, 1) := by decide +kernel
theorem dX5_clear_16 : decode cX5_clear 16 = .ok (.lconst 0, 1) := by decide +kernel
theorem dX5_clear_17 : decode cX5_clear 17 = .ok (.putfield 109, 3) := by decide +kernel
theorem dX5_clear_20 : decode cX5_clear 20 = .ok (.aload_n 0, 1) := by decide +kernel
theorem dX5_clear_21 : decode cX5_clear 21 = .ok (.lconst 0, 1) := by decide +kernel
theorem dX5_clear_22 : decode cX5_clear 22 = .ok (.putfield 79, 3) := by decide +kernel
theorem dX5_clear_25 : decode cX5_clear 25 = .ok (.aload_n 0, 1) := by decide +kernel
theorem dX5_clear_26 : decode cX5_clear 26 = .ok (.iconst 0, 1) := by decide +kernel
theorem dX5_clear_27 : decode cX5_clear 27 = .ok (.putfield 85, 3) := by decide +kernel
theorem dX5_clear_30 : decode cX5_clear 30 = .ok (.aload_n 0, 1) := by decide +kernel
theorem dX5_clear_31 : decode cX5_clear 31 = .ok (.iconst 0, 1) := by decide +kernel
theorem dX5_clear_32 : decode cX5_clear 32 = .ok (.putfield 134, 3) := by decide +kernel
theorem dX5_clear_35 : decode cX5_clear 35 = .ok (.aload_n 0, 1) := by decide +kernel
theorem dX5_clear_36 : decode cX5_clear 36 = .ok (.iconst 0, 1) := by decide +kernel
theorem dX5_clear_37 : decode cX5_clear 37 = .ok (.putfield 130, 3) := by decide +kernel
theorem dX5_clear_40 : decode cX5_clear 40 = .ok (.aload_n 0, 1) := by decide +kernel
theorem dX5_clear_41 : decode cX5_clear 41 = .ok (.iconst 0, 1) := by decide +kernel
theorem dX5_clear_42 : decode cX5_clear 42 = .ok (.putfield 91, 3) := by decide +kernel
theorem dX5_clear_45 : decode cX5_clear 45 = .ok (.aload_n 0, 1) := by decide +kernel
theorem dX5_clear_46 : decode cX5_clear 46 = .ok (.lconst 0, 1) := by decide +kernel
theorem dX5_clear_47 : decode cX5_clear 47 = .ok (.putfield 152, 3) := by decide +kernel
theorem dX5_clear_50 : decode cX5_clear 50 = .ok (.aload_n 0, 1) := by decide +kernel
theorem dX5_clear_51 : decode cX5_clear 51 = .ok (.lconst 0, 1) := by decide +kernel
theorem dX5_clear_52 : decode cX5_clear 52 = .ok (.putfield 163, 3) := by decide +kernel
theorem dX5_clear_55 : decode cX5_clear 55 = .ok (.return_, 1) := by decide +kernel
set_option maxRecDepth 20000 in
theorem ggX5_go_X5_clear : GoodIn wsX5_go wsX5_clear := goodIn_r _ [15, 3, 16, 17, 18, 5, 7, 19, 20, 21, 22, 23, 96, 97, 98, 99, 100, 101, 102, 103, 104, 105, 106, 107, 108, 109, 110, 111, 112, 113, 114, 115, 116, 117, 118, 119, 120, 121, 122, 123, 124, 125, 126, 127, 128, 129, 130, 131, 132] (by decide +kernel) (by decide +kernel)
set_option maxRecDepth 20000 in
theorem gX5_go_X5_clear : GoodIn wsX5_go (wsV RX5 166 RX5 yX5_clear wsX5_clear) := goodIn_app (goodIn_of _ (by decide +kernel)) ggX5_go_X5_clear
set_option maxRecDepth 20000 in
theorem ggX5_go_X5_stretch : GoodIn wsX5_go wsX5_stretch := goodIn_r _ [27, 5, 28, 7, 29, 30, 21, 31, 32, 33, 34, 35, 36, 37, 14, 38, 3, 16, 96, 97, 98, 99, 100, 101, 102, 103, 104, 105, 106, 107, 108, 109, 110, 111, 112, 113, 114, 115, 116, 117, 118, 119, 120, 121, 122, 123, 124, 125, 126, 127, 128, 129, 130, 131, 132] (by decide +kernel) (by decide +kernel)
set_option maxRecDepth 20000 in
theorem gX5_go_X5_stretch : GoodIn wsX5_go (wsV RX5 169 RX5 yX5_stretch wsX5_stretch) := goodIn_app (goodIn_of _ (by decide +kernel)) ggX5_go_X5_stretch
set_option maxRecDepth 20000 in
theorem ggX5_go_X5_eventIn : GoodIn wsX5_go wsX5_eventIn := goodIn_r _ [42, 43, 44, 45, 96, 97, 98, 99, 100, 101, 102, 103, 104, 105, 106, 107, 108, 109, 110, 111, 112, 113, 114, 115, 116, 117, 118, 119, 120, 121, 122, 123, 124, 125, 126, 127, 128, 129, 130, 131, 132] (by decide +kernel) (by decide +kernel)
set_option maxRecDepth 20000 in
theorem gX5_go_X5_eventIn : GoodIn wsX5_go (wsV RX5 172 RX5 yX5_eventIn wsX5_eventIn) := goodIn_app (goodIn_of _ (by decide +kernel)) ggX5_go_X5_eventIn
set_option maxRecDepth 20000 in
theorem ggX5_go_X5_happens : GoodIn wsX5_go wsX5_happens := goodIn_r _ [49, 8, 50, 20, 19, 3, 7, 5, 51, 35, 36, 37, 14, 38, 16, 52, 53, 54, 55, 17, 56, 57, 58, 59, 18, 60, 61, 62, 63, 64, 65, 66, 67, 68, 9, 69, 70, 71, 72, 73, 74, 75, 76, 77, 78, 79, 80, 81, 96, 97, 98, 99, 100, 101, 102, 103, 104, 105, 106, 107, 108, 109, 110, 111, 112, 113, 114, 115, 116, 117, 118, 119, 120, 121, 122, 123, 124, 125, 126, 127, 128, 129, 130, 131, 132] (by decide +kernel) (by decide +kernel)
set_option maxRecDepth 20000 in
theorem gX5_go_X5_happens : GoodIn wsX5_go (wsV RX5 176 RX5 yX5_happens wsX5_happens) := goodIn_app (goodIn_of _ (by decide +kernel)) ggX5_go_X5_happens
set_option maxRecDepth 20000 in
theorem ggX5_go_X5_book : GoodIn wsX5_go wsX5_book := goodIn_r _ [38, 3, 16, 96, 97, 98, 99, 100, 101, 102, 103, 104, 105, 106, 107, 108, 109, 110, 111, 112, 113, 114, 115, 116, 117, 118, 119, 120, 121, 122, 123, 124, 125, 126, 127, 128, 129, 130, 131, 132] (by decide +kernel) (by decide +kernel)
set_option maxRecDepth 20000 in
theorem gX5_go_X5_book : GoodIn wsX5_go (wsV RX5 75 RX5 yX5_book wsX5_book) := goodIn_app (goodIn_of _ (by decide +kernel)) ggX5_go_X5_book
set_option maxRecDepth 20000 in
theorem ggX5_go_X5_writeOff : GoodIn wsX5_go wsX5_writeOff := goodIn_r _ [85, 22, 19, 20, 7, 32, 86, 33, 87, 21, 34, 16, 23, 88, 89, 90, 14, 91, 5, 30, 77, 35, 36, 37, 38, 3, 78, 79, 80, 81, 92, 93, 94, 95, 28, 29, 31, 96, 97, 98, 99, 100, 101, 102, 103, 104, 105, 106, 107, 108, 109, 110, 111, 112, 113, 114, 115, 116, 117, 118, 119, 120, 121, 122, 123, 124, 125, 126, 127, 128, 129, 130, 131, 132] (by decide +kernel) (by decide +kernel)
set_option maxRecDepth 20000 in
theorem gX5_go_X5_writeOff : GoodIn wsX5_go (wsV RX5 180 RX5 yX5_writeOff wsX5_writeOff) := goodIn_app (goodIn_of _ (by decide +kernel)) ggX5_go_X5_writeOff
theorem dX5_go_0 : decode cX5_go 0 = .ok (.aload_n 0, 1) := by decide +kernel
theorem dX5_go_1 : decode cX5_go 1 = .ok (.invokevirtual 166, 3) := by decide +kernel
theorem dX5_go_4 : decode cX5_go 4 = .ok (.aload_n 0, 1) := by decide +kernel
theorem dX5_go_5 : decode cX5_go 5 = .ok (.getfield 16, 3) := by decide +kernel
theorem dX5_go_8 : decode cX5_go 8 = .ok (.iload_n 1, 1) := by decide +kernel
theorem dX5_go_9 : decode cX5_go 9 = .ok (.iaload, 1) := by decide +kernel
theorem dX5_go_10 : decode cX5_go 10 = .ok (.istore 4, 2) := by decide +kernel
theorem dX5_go_12 : decode cX5_go 12 = .ok (.iload 4, 2) := by decide +kernel
theorem dX5_go_14 : decode cX5_go 14 = .ok (.iload_n 2, 1) := by decide +kernel
theorem dX5_go_15 : decode cX5_go 15 = .ok (.if_icmp .gt 180, 3) := by decide +kernel
theorem dX5_go_18 : decode cX5_go 18 = .ok (.iload 4, 2) := by decide +kernel
theorem dX5_go_20 : decode cX5_go 20 = .ok (.aload_n 0, 1) := by decide +kernel
theorem dX5_go_21 : decode cX5_go 21 = .ok (.getfield 16, 3) := by decide +kernel
theorem dX5_go_24 : decode cX5_go 24 = .ok (.iload_n 1, 1) := by decide +kernel
theorem dX5_go_25 : decode cX5_go 25 = .ok (.iaload, 1) := by decide +kernel
theorem dX5_go_26 : decode cX5_go 26 = .ok (.if_icmp .ne 38, 3) := by decide +kernel
theorem dX5_go_29 : decode cX5_go 29 = .ok (.aload_n 0, 1) := by decide +kernel
theorem dX5_go_30 : decode cX5_go 30 = .ok (.aload_n 0, 1) := by decide +kernel
theorem dX5_go_31 : decode cX5_go 31 = .ok (.getfield 7, 3) := by decide +kernel
theorem dX5_go_34 : decode cX5_go 34 = .ok (.iload_n 1, 1) := by decide +kernel
theorem dX5_go_35 : decode cX5_go 35 = .ok (.laload, 1) := by decide +kernel
theorem dX5_go_36 : decode cX5_go 36 = .ok (.putfield 65, 3) := by decide +kernel
theorem dX5_go_39 : decode cX5_go 39 = .ok (.aload_n 0, 1) := by decide +kernel
theorem dX5_go_40 : decode cX5_go 40 = .ok (.aload_n 0, 1) := by decide +kernel
theorem dX5_go_41 : decode cX5_go 41 = .ok (.getfield 13, 3) := by decide +kernel
theorem dX5_go_44 : decode cX5_go 44 = .ok (.iload_n 1, 1) := by decide +kernel
theorem dX5_go_45 : decode cX5_go 45 = .ok (.laload, 1) := by decide +kernel
theorem dX5_go_46 : decode cX5_go 46 = .ok (.putfield 79, 3) := by decide +kernel
theorem dX5_go_49 : decode cX5_go 49 = .ok (.aload_n 0, 1) := by decide +kernel
theorem dX5_go_50 : decode cX5_go 50 = .ok (.aload_n 0, 1) := by decide +kernel
theorem dX5_go_51 : decode cX5_go 51 = .ok (.getfield 20, 3) := by decide +kernel
theorem dX5_go_54 : decode cX5_go 54 = .ok (.iload_n 1, 1) := by decide +kernel
theorem dX5_go_55 : decode cX5_go 55 = .ok (.iaload, 1) := by decide +kernel
theorem dX5_go_56 : decode cX5_go 56 = .ok (.putfield 85, 3) := by decide +kernel
theorem dX5_go_59 : decode cX5_go 59 = .ok (.aload_n 0, 1) := by decide +kernel
theorem dX5_go_60 : decode cX5_go 60 = .ok (.iload_n 1, 1) := by decide +kernel
theorem dX5_go_61 : decode cX5_go 61 = .ok (.invokevirtual 169, 3) := by decide +kernel
theorem dX5_go_64 : decode cX5_go 64 = .ok (.aload_n 0, 1) := by decide +kernel
theorem dX5_go_65 : decode cX5_go 65 = .ok (.iload_n 1, 1) := by decide +kernel
theorem dX5_go_66 : decode cX5_go 66 = .ok (.iload 4, 2) := by decide +kernel
theorem dX5_go_68 : decode cX5_go 68 = .ok (.invokevirtual 172, 3) := by decide +kernel
theorem dX5_go_71 : decode cX5_go 71 = .ok (.istore 5, 2) := by decide +kernel
theorem dX5_go_73 : decode cX5_go 73 = .ok (.iload 5, 2) := by decide +kernel
theorem dX5_go_75 : decode cX5_go 75 = .ok (.ifCond .lt 29, 3) := by decide +kernel
theorem dX5_go_78 : decode cX5_go 78 = .ok (.iload_n 3, 1) := by decide +kernel
theorem dX5_go_79 : decode cX5_go 79 = .ok (.ifCond .eq 29, 3) := by decide +kernel
theorem dX5_go_82 : decode cX5_go 82 = .ok (.aload_n 0, 1) := by decide +kernel
theorem dX5_go_83 : decode cX5_go 83 = .ok (.getfield 41, 3) := by decide +kernel
theorem dX5_go_86 : decode cX5_go 86 = .ok (.iload 5, 2) := by decide +kernel
theorem dX5_go_88 : decode cX5_go 88 = .ok (.iaload, 1) := by decide +kernel
theorem dX5_go_89 : decode cX5_go 89 = .ok (.iconst 3, 1) := by decide +kernel
theorem dX5_go_90 : decode cX5_go 90 = .ok (.if_icmp .eq 14, 3) := by decide +kernel
theorem dX5_go_93 : decode cX5_go 93 = .ok (.aload_n 0, 1) := by decide +kernel
theorem dX5_go_94 : decode cX5_go 94 = .ok (.getfield 41, 3) := by decide +kernel
theorem dX5_go_97 : decode cX5_go 97 = .ok (.iload 5, 2) := by decide +kernel
theorem dX5_go_99 : decode cX5_go 99 = .ok (.iaload, 1) := by decide +kernel
theorem dX5_go_100 : decode cX5_go 100 = .ok (.iconst 4, 1) := by decide +kernel
theorem dX5_go_101 : decode cX5_go 101 = .ok (.if_icmp .ne 7, 3) := by decide +kernel
theorem dX5_go_104 : decode cX5_go 104 = .ok (.iconst 1, 1) := by decide +kernel
theorem dX5_go_105 : decode cX5_go 105 = .ok (.goto 4, 3) := by decide +kernel
theorem dX5_go_108 : decode cX5_go 108 = .ok (.iconst 0, 1) := by decide +kernel
theorem dX5_go_109 : decode cX5_go 109 = .ok (.istore 6, 2) := by decide +kernel
theorem dX5_go_111 : decode cX5_go 111 = .ok (.iload 6, 2) := by decide +kernel
theorem dX5_go_113 : decode cX5_go 113 = .ok (.ifCond .ne 17, 3) := by decide +kernel
theorem dX5_go_116 : decode cX5_go 116 = .ok (.aload_n 0, 1) := by decide +kernel
theorem dX5_go_117 : decode cX5_go 117 = .ok (.iload 5, 2) := by decide +kernel
theorem dX5_go_119 : decode cX5_go 119 = .ok (.iload 4, 2) := by decide +kernel
theorem dX5_go_121 : decode cX5_go 121 = .ok (.invokevirtual 176, 3) := by decide +kernel
theorem dX5_go_124 : decode cX5_go 124 = .ok (.ifCond .ne 6, 3) := by decide +kernel
theorem dX5_go_127 : decode cX5_go 127 = .ok (.iload 4, 2) := by decide +kernel
theorem dX5_go_129 : decode cX5_go 129 = .ok (.ireturn, 1) := by decide +kernel
theorem dX5_go_130 : decode cX5_go 130 = .ok (.iload 6, 2) := by decide +kernel
theorem dX5_go_132 : decode cX5_go 132 = .ok (.ifCond .ne 20, 3) := by decide +kernel
theorem dX5_go_135 : decode cX5_go 135 = .ok (.aload_n 0, 1) := by decide +kernel
theorem dX5_go_136 : decode cX5_go 136 = .ok (.getfield 41, 3) := by decide +kernel
theorem dX5_go_139 : decode cX5_go 139 = .ok (.iload 5, 2) := by decide +kernel
theorem dX5_go_141 : decode cX5_go 141 = .ok (.iaload, 1) := by decide +kernel
theorem dX5_go_142 : decode cX5_go 142 = .ok (.bipush 6, 2) := by decide +kernel
theorem dX5_go_144 : decode cX5_go 144 = .ok (.if_icmp .ge 8, 3) := by decide +kernel
theorem dX5_go_147 : decode cX5_go 147 = .ok (.aload_n 0, 1) := by decide +kernel
theorem dX5_go_148 : decode cX5_go 148 = .ok (.iload_n 1, 1) := by decide +kernel
theorem dX5_go_149 : decode cX5_go 149 = .ok (.invokevirtual 169, 3) := by decide +kernel
theorem dX5_go_152 : decode cX5_go 152 = .ok (.iload_n 3, 1) := by decide +kernel
theorem dX5_go_153 : decode cX5_go 153 = .ok (.ifCond .eq 14, 3) := by decide +kernel
theorem dX5_go_156 : decode cX5_go 156 = .ok (.aload_n 0, 1) := by decide +kernel
theorem dX5_go_157 : decode cX5_go 157 = .ok (.getfield 50, 3) := by decide +kernel
theorem dX5_go_160 : decode cX5_go 160 = .ok (.iload 4, 2) := by decide +kernel
theorem dX5_go_162 : decode cX5_go 162 = .ok (.aload_n 0, 1) := by decide +kernel
theorem dX5_go_163 : decode cX5_go 163 = .ok (.invokevirtual 75, 3) := by decide +kernel
theorem dX5_go_166 : decode cX5_go 166 = .ok (.lastore, 1) := by decide +kernel
theorem dX5_go_167 : decode cX5_go 167 = .ok (.aload_n 0, 1) := by decide +kernel
theorem dX5_go_168 : decode cX5_go 168 = .ok (.iload_n 1, 1) := by decide +kernel
theorem dX5_go_169 : decode cX5_go 169 = .ok (.iload 4, 2) := by decide +kernel
theorem dX5_go_171 : decode cX5_go 171 = .ok (.invokevirtual 180, 3) := by decide +kernel
theorem dX5_go_174 : decode cX5_go 174 = .ok (.iload_n 3, 1) := by decide +kernel
theorem dX5_go_175 : decode cX5_go 175 = .ok (.ifCond .eq 14, 3) := by decide +kernel
theorem dX5_go_178 : decode cX5_go 178 = .ok (.aload_n 0, 1) := by decide +kernel
theorem dX5_go_179 : decode cX5_go 179 = .ok (.getfield 53, 3) := by decide +kernel
theorem dX5_go_182 : decode cX5_go 182 = .ok (.iload 4, 2) := by decide +kernel
theorem dX5_go_184 : decode cX5_go 184 = .ok (.aload_n 0, 1) := by decide +kernel
theorem dX5_go_185 : decode cX5_go 185 = .ok (.invokevirtual 75, 3) := by decide +kernel
theorem dX5_go_188 : decode cX5_go 188 = .ok (.lastore, 1) := by decide +kernel
theorem dX5_go_189 : decode cX5_go 189 = .ok (.iinc 4 1, 3) := by decide +kernel
theorem dX5_go_192 : decode cX5_go 192 = .ok (.goto (-180), 3) := by decide +kernel
theorem dX5_go_195 : decode cX5_go 195 = .ok (.bipush 36, 2) := by decide +kernel
theorem dX5_go_197 : decode cX5_go 197 = .ok (.ireturn, 1) := by decide +kernel
set_option maxRecDepth 20000 in
theorem ggX5_reckon_X5_go : GoodIn wsX5_reckon wsX5_go := goodIn_r _ [6, 7, 8, 9, 10, 11, 12, 13, 14, 15, 16, 17, 18, 19, 5, 20, 21, 22, 23, 24, 25, 26, 27, 28, 29, 30, 31, 32, 33, 34, 35, 36, 37, 38, 39, 40, 41, 42, 43, 44, 45, 46, 47, 48, 49, 50, 51, 52, 53, 54, 55, 56, 57, 58, 59, 60, 61, 62, 63, 64, 65, 66, 67, 68, 69, 70, 71, 72, 1, 73, 74, 75, 76, 77, 78, 79, 80, 81, 82, 83, 84, 85, 86, 87, 88, 89, 90, 91, 92, 93, 94, 95, 96, 97, 98, 99, 100, 101, 102, 103, 104, 105, 106, 107, 108, 109, 110, 111, 112, 113, 114, 115, 116, 117, 118, 119, 120, 121, 122, 123, 124, 125, 126, 127, 128, 129, 130, 131, 132, 133, 134, 135, 136] (by decide +kernel) (by decide +kernel)
set_option maxRecDepth 20000 in
theorem gX5_reckon_X5_go : GoodIn wsX5_reckon (wsV RX5 184 RX5 yX5_go wsX5_go) := goodIn_app (goodIn_of _ (by decide +kernel)) ggX5_reckon_X5_go
theorem dX5_reckon_0 : decode cX5_reckon 0 = .ok (.aload_n 0, 1) := by decide +kernel
theorem dX5_reckon_1 : decode cX5_reckon 1 = .ok (.aload_n 0, 1) := by decide +kernel
theorem dX5_reckon_2 : decode cX5_reckon 2 = .ok (.iload_n 1, 1) := by decide +kernel
theorem dX5_reckon_3 : decode cX5_reckon 3 = .ok (.bipush 35, 2) := by decide +kernel
theorem dX5_reckon_5 : decode cX5_reckon 5 = .ok (.iconst 1, 1) := by decide +kernel
theorem dX5_reckon_6 : decode cX5_reckon 6 = .ok (.invokevirtual 184, 3) := by decide +kernel
theorem dX5_reckon_9 : decode cX5_reckon 9 = .ok (.putfield 116, 3) := by decide +kernel
theorem dX5_reckon_12 : decode cX5_reckon 12 = .ok (.aload_n 0, 1) := by decide +kernel
theorem dX5_reckon_13 : decode cX5_reckon 13 = .ok (.iload_n 1, 1) := by decide +kernel
theorem dX5_reckon_14 : decode cX5_reckon 14 = .ok (.iload_n 2, 1) := by decide +kernel
theorem dX5_reckon_15 : decode cX5_reckon 15 = .ok (.iconst 0, 1) := by decide +kernel
theorem dX5_reckon_16 : decode cX5_reckon 16 = .ok (.invokevirtual 184, 3) := by decide +kernel
theorem dX5_reckon_19 : decode cX5_reckon 19 = .ok (.bipush 36, 2) := by decide +kernel
theorem dX5_reckon_21 : decode cX5_reckon 21 = .ok (.if_icmp .ne 7, 3) := by decide +kernel
theorem dX5_reckon_24 : decode cX5_reckon 24 = .ok (.iconst 1, 1) := by decide +kernel
theorem dX5_reckon_25 : decode cX5_reckon 25 = .ok (.goto 4, 3) := by decide +kernel
theorem dX5_reckon_28 : decode cX5_reckon 28 = .ok (.iconst 0, 1) := by decide +kernel
theorem dX5_reckon_29 : decode cX5_reckon 29 = .ok (.ireturn, 1) := by decide +kernel
set_option maxRecDepth 20000 in
theorem ggX5_part_X5_isIn : GoodIn wsX5_part wsX5_isIn := goodIn_r _ [16] (by decide +kernel) (by decide +kernel)
set_option maxRecDepth 20000 in
theorem gX5_part_X5_isIn : GoodIn wsX5_part (va_wsS RX5 190 yX5_isIn wsX5_isIn) := goodIn_app (goodIn_of _ (by decide +kernel)) ggX5_part_X5_isIn
set_option maxRecDepth 20000 in
theorem ggX5_part_X5_isMonth : GoodIn wsX5_part wsX5_isMonth := goodIn_r _ [19] (by decide +kernel) (by decide +kernel)
set_option maxRecDepth 20000 in
theorem gX5_part_X5_isMonth : GoodIn wsX5_part (va_wsS RX5 194 yX5_isMonth wsX5_isMonth) := goodIn_app (goodIn_of _ (by decide +kernel)) ggX5_part_X5_isMonth
theorem dX5_part_0 : decode cX5_part 0 = .ok (.lload_n 1, 1) := by decide +kernel
theorem dX5_part_1 : decode cX5_part 1 = .ok (.lconst 1, 1) := by decide +kernel
theorem dX5_part_2 : decode cX5_part 2 = .ok (.ldc2_w 188, 3) := by decide +kernel
theorem dX5_part_5 : decode cX5_part 5 = .ok (.invokestatic 190, 3) := by decide +kernel
theorem dX5_part_8 : decode cX5_part 8 = .ok (.ifCond .eq 50, 3) := by decide +kernel
theorem dX5_part_11 : decode cX5_part 11 = .ok (.lload_n 3, 1) := by decide +kernel
theorem dX5_part_12 : decode cX5_part 12 = .ok (.lconst 0, 1) := by decide +kernel
theorem dX5_part_13 : decode cX5_part 13 = .ok (.lload_n 1, 1) := by decide +kernel
theorem dX5_part_14 : decode cX5_part 14 = .ok (.invokestatic 190, 3) := by decide +kernel
theorem dX5_part_17 : decode cX5_part 17 = .ok (.ifCond .eq 41, 3) := by decide +kernel
theorem dX5_part_20 : decode cX5_part 20 = .ok (.iload 5, 2) := by decide +kernel
theorem dX5_part_22 : decode cX5_part 22 = .ok (.invokestatic 194, 3) := by decide +kernel
theorem dX5_part_25 : decode cX5_part 25 = .ok (.ifCond .eq 33, 3) := by decide +kernel
theorem dX5_part_28 : decode cX5_part 28 = .ok (.iload 6, 2) := by decide +kernel
theorem dX5_part_30 : decode cX5_part 30 = .ok (.i2l, 1) := by decide +kernel
theorem dX5_part_31 : decode cX5_part 31 = .ok (.lconst 1, 1) := by decide +kernel
theorem dX5_part_32 : decode cX5_part 32 = .ok (.ldc2_w 198, 3) := by decide +kernel
theorem dX5_part_35 : decode cX5_part 35 = .ok (.invokestatic 190, 3) := by decide +kernel
theorem dX5_part_38 : decode cX5_part 38 = .ok (.ifCond .eq 20, 3) := by decide +kernel
theorem dX5_part_41 : decode cX5_part 41 = .ok (.iload 7, 2) := by decide +kernel
theorem dX5_part_43 : decode cX5_part 43 = .ok (.i2l, 1) := by decide +kernel
theorem dX5_part_44 : decode cX5_part 44 = .ok (.lconst 0, 1) := by decide +kernel
theorem dX5_part_45 : decode cX5_part 45 = .ok (.ldc2_w 200, 3) := by decide +kernel
theorem dX5_part_48 : decode cX5_part 48 = .ok (.invokestatic 190, 3) := by decide +kernel
theorem dX5_part_51 : decode cX5_part 51 = .ok (.ifCond .eq 7, 3) := by decide +kernel
theorem dX5_part_54 : decode cX5_part 54 = .ok (.iconst 1, 1) := by decide +kernel
theorem dX5_part_55 : decode cX5_part 55 = .ok (.goto 4, 3) := by decide +kernel
theorem dX5_part_58 : decode cX5_part 58 = .ok (.iconst 0, 1) := by decide +kernel
theorem dX5_part_59 : decode cX5_part 59 = .ok (.istore 9, 2) := by decide +kernel
theorem dX5_part_61 : decode cX5_part 61 = .ok (.iload 9, 2) := by decide +kernel
theorem dX5_part_63 : decode cX5_part 63 = .ok (.ifCond .eq 40, 3) := by decide +kernel
theorem dX5_part_66 : decode cX5_part 66 = .ok (.iload 7, 2) := by decide +kernel
theorem dX5_part_68 : decode cX5_part 68 = .ok (.iconst 1, 1) := by decide +kernel
theorem dX5_part_69 : decode cX5_part 69 = .ok (.if_icmp .eq 9, 3) := by decide +kernel
theorem dX5_part_72 : decode cX5_part 72 = .ok (.iload 7, 2) := by decide +kernel
theorem dX5_part_74 : decode cX5_part 74 = .ok (.iconst 3, 1) := by decide +kernel
theorem dX5_part_75 : decode cX5_part 75 = .ok (.if_icmp .ne 19, 3) := by decide +kernel
theorem dX5_part_78 : decode cX5_part 78 = .ok (.iload 8, 2) := by decide +kernel
theorem dX5_part_80 : decode cX5_part 80 = .ok (.i2l, 1) := by decide +kernel
theorem dX5_part_81 : decode cX5_part 81 = .ok (.lconst 1, 1) := by decide +kernel
theorem dX5_part_82 : decode cX5_part 82 = .ok (.ldc2_w 119, 3) := by decide +kernel
theorem dX5_part_85 : decode cX5_part 85 = .ok (.invokestatic 190, 3) := by decide +kernel
theorem dX5_part_88 : decode cX5_part 88 = .ok (.ifCond .eq 15, 3) := by decide +kernel
theorem dX5_part_91 : decode cX5_part 91 = .ok (.goto 8, 3) := by decide +kernel
theorem dX5_part_94 : decode cX5_part 94 = .ok (.iload 8, 2) := by decide +kernel
theorem dX5_part_96 : decode cX5_part 96 = .ok (.ifCond .ne 7, 3) := by decide +kernel
theorem dX5_part_99 : decode cX5_part 99 = .ok (.iconst 1, 1) := by decide +kernel
theorem dX5_part_100 : decode cX5_part 100 = .ok (.goto 4, 3) := by decide +kernel
theorem dX5_part_103 : decode cX5_part 103 = .ok (.iconst 0, 1) := by decide +kernel
theorem dX5_part_104 : decode cX5_part 104 = .ok (.istore 9, 2) := by decide +kernel
theorem dX5_part_106 : decode cX5_part 106 = .ok (.aload_n 0, 1) := by decide +kernel
theorem dX5_part_107 : decode cX5_part 107 = .ok (.iload 9, 2) := by decide +kernel
theorem dX5_part_109 : decode cX5_part 109 = .ok (.ifCond .ne 7, 3) := by decide +kernel
theorem dX5_part_112 : decode cX5_part 112 = .ok (.iconst 1, 1) := by decide +kernel
theorem dX5_part_113 : decode cX5_part 113 = .ok (.goto 17, 3) := by decide +kernel
theorem dX5_part_116 : decode cX5_part 116 = .ok (.aload_n 0, 1) := by decide +kernel
theorem dX5_part_117 : decode cX5_part 117 = .ok (.getfield 62, 3) := by decide +kernel
theorem dX5_part_120 : decode cX5_part 120 = .ok (.bipush 6, 2) := by decide +kernel
theorem dX5_part_122 : decode cX5_part 122 = .ok (.if_icmp .ne 7, 3) := by decide +kernel
theorem dX5_part_125 : decode cX5_part 125 = .ok (.iconst 2, 1) := by decide +kernel
theorem dX5_part_126 : decode cX5_part 126 = .ok (.goto 4, 3) := by decide +kernel
theorem dX5_part_129 : decode cX5_part 129 = .ok (.iconst 0, 1) := by decide +kernel
theorem dX5_part_130 : decode cX5_part 130 = .ok (.putfield 56, 3) := by decide +kernel
theorem dX5_part_133 : decode cX5_part 133 = .ok (.aload_n 0, 1) := by decide +kernel
theorem dX5_part_134 : decode cX5_part 134 = .ok (.getfield 56, 3) := by decide +kernel
theorem dX5_part_137 : decode cX5_part 137 = .ok (.ifCond .le 5, 3) := by decide +kernel
theorem dX5_part_140 : decode cX5_part 140 = .ok (.iconst 0, 1) := by decide +kernel
theorem dX5_part_141 : decode cX5_part 141 = .ok (.ireturn, 1) := by decide +kernel
theorem dX5_part_142 : decode cX5_part 142 = .ok (.aload_n 0, 1) := by decide +kernel
theorem dX5_part_143 : decode cX5_part 143 = .ok (.getfield 7, 3) := by decide +kernel
theorem dX5_part_146 : decode cX5_part 146 = .ok (.aload_n 0, 1) := by decide +kernel
theorem dX5_part_147 : decode cX5_part 147 = .ok (.getfield 62, 3) := by decide +kernel
theorem dX5_part_150 : decode cX5_part 150 = .ok (.lload_n 1, 1) := by decide +kernel
theorem dX5_part_151 : decode cX5_part 151 = .ok (.lastore, 1) := by decide +kernel
theorem dX5_part_152 : decode cX5_part 152 = .ok (.aload_n 0, 1) := by decide +kernel
theorem dX5_part_153 : decode cX5_part 153 = .ok (.getfield 13, 3) := by decide +kernel
theorem dX5_part_156 : decode cX5_part 156 = .ok (.aload_n 0, 1) := by decide +kernel
theorem dX5_part_157 : decode cX5_part 157 = .ok (.getfield 62, 3) := by decide +kernel
theorem dX5_part_160 : decode cX5_part 160 = .ok (.lload_n 3, 1) := by decide +kernel
theorem dX5_part_161 : decode cX5_part 161 = .ok (.lastore, 1) := by decide +kernel
theorem dX5_part_162 : decode cX5_part 162 = .ok (.aload_n 0, 1) := by decide +kernel
theorem dX5_part_163 : decode cX5_part 163 = .ok (.getfield 16, 3) := by decide +kernel
theorem dX5_part_166 : decode cX5_part 166 = .ok (.aload_n 0, 1) := by decide +kernel
theorem dX5_part_167 : decode cX5_part 167 = .ok (.getfield 62, 3) := by decide +kernel
theorem dX5_part_170 : decode cX5_part 170 = .ok (.iload 5, 2) := by decide +kernel
theorem dX5_part_172 : decode cX5_part 172 = .ok (.iastore, 1) := by decide +kernel
theorem dX5_part_173 : decode cX5_part 173 = .ok (.aload_n 0, 1) := by decide +kernel
theorem dX5_part_174 : decode cX5_part 174 = .ok (.getfield 20, 3) := by decide +kernel
theorem dX5_part_177 : decode cX5_part 177 = .ok (.aload_n 0, 1) := by decide +kernel
theorem dX5_part_178 : decode cX5_part 178 = .ok (.getfield 62, 3) := by decide +kernel
theorem dX5_part_181 : decode cX5_part 181 = .ok (.iload 6, 2) := by decide +kernel
theorem dX5_part_183 : decode cX5_part 183 = .ok (.iastore, 1) := by decide +kernel
theorem dX5_part_184 : decode cX5_part 184 = .ok (.aload_n 0, 1) := by decide +kernel
theorem dX5_part_185 : decode cX5_part 185 = .ok (.getfield 23, 3) := by decide +kernel
theorem dX5_part_188 : decode cX5_part 188 = .ok (.aload_n 0, 1) := by decide +kernel
theorem dX5_part_189 : decode cX5_part 189 = .ok (.getfield 62, 3) := by decide +kernel
theorem dX5_part_192 : decode cX5_part 192 = .ok (.iload 7, 2) := by decide +kernel
theorem dX5_part_194 : decode cX5_part 194 = .ok (.iastore, 1) := by decide +kernel
theorem dX5_part_195 : decode cX5_part 195 = .ok (.aload_n 0, 1) := by decide +kernel
theorem dX5_part_196 : decode cX5_part 196 = .ok (.getfield 26, 3) := by decide +kernel
theorem dX5_part_199 : decode cX5_part 199 = .ok (.aload_n 0, 1) := by decide +kernel
theorem dX5_part_200 : decode cX5_part 200 = .ok (.getfield 62, 3) := by decide +kernel
theorem dX5_part_203 : decode cX5_part 203 = .ok (.iload 8, 2) := by decide +kernel
theorem dX5_part_205 : decode cX5_part 205 = .ok (.iastore, 1) := by decide +kernel
theorem dX5_part_206 : decode cX5_part 206 = .ok (.aload_n 0, 1) := by decide +kernel
theorem dX5_part_207 : decode cX5_part 207 = .ok (.aload_n 0, 1) := by decide +kernel
theorem dX5_part_208 : decode cX5_part 208 = .ok (.getfield 62, 3) := by decide +kernel
theorem dX5_part_211 : decode cX5_part 211 = .ok (.iconst 1, 1) := by decide +kernel
theorem dX5_part_212 : decode cX5_part 212 = .ok (.iadd, 1) := by decide +kernel
theorem dX5_part_213 : decode cX5_part 213 = .ok (.putfield 62, 3) := by decide +kernel
theorem dX5_part_216 : decode cX5_part 216 = .ok (.aload_n 0, 1) := by decide +kernel
theorem dX5_part_217 : decode cX5_part 217 = .ok (.getfield 62, 3) := by decide +kernel
theorem dX5_part_220 : decode cX5_part 220 = .ok (.iconst 1, 1) := by decide +kernel
theorem dX5_part_221 : decode cX5_part 221 = .ok (.isub, 1) := by decide +kernel
theorem dX5_part_222 : decode cX5_part 222 = .ok (.ireturn, 1) := by decide +kernel
set_option maxRecDepth 20000 in
theorem ggX5_units_X5_isPart : GoodIn wsX5_units wsX5_isPart := goodIn_r _ [8, 9, 116, 117, 118, 119, 120, 121, 122, 123, 124, 125, 126, 127, 128, 129, 130, 131, 132, 133, 134, 135, 136, 137, 138, 139, 140, 141, 142, 143, 144, 145, 146, 147, 148, 149, 150, 151, 152] (by decide +kernel) (by decide +kernel)
set_option maxRecDepth 20000 in
theorem gX5_units_X5_isPart : GoodIn wsX5_units (wsV RX5 202 RX5 yX5_isPart wsX5_isPart) := goodIn_app (goodIn_of _ (by decide +kernel)) ggX5_units_X5_isPart
set_option maxRecDepth 20000 in
theorem ggX5_units_X5_isMonth : GoodIn wsX5_units wsX5_isMonth := goodIn_r _ [12] (by decide +kernel) (by decide +kernel)
set_option maxRecDepth 20000 in
theorem gX5_units_X5_isMonth : GoodIn wsX5_units (va_wsS RX5 194 yX5_isMonth wsX5_isMonth) := goodIn_app (goodIn_of _ (by decide +kernel)) ggX5_units_X5_isMonth
set_option maxRecDepth 20000 in
theorem ggX5_units_X5_isIn : GoodIn wsX5_units wsX5_isIn := goodIn_r _ [15] (by decide +kernel) (by decide +kernel)
set_option maxRecDepth 20000 in
theorem gX5_units_X5_isIn : GoodIn wsX5_units (va_wsS RX5 190 yX5_isIn wsX5_isIn) := goodIn_app (goodIn_of _ (by decide +kernel)) ggX5_units_X5_isIn
set_option maxRecDepth 20000 in
theorem ggX5_units_X5_reckon : GoodIn wsX5_units wsX5_reckon := goodIn_r _ [19, 20, 21, 22, 23, 7, 24, 25, 26, 27, 28, 29, 30, 31, 32, 33, 34, 35, 36, 37, 38, 39, 40, 41, 42, 43, 44, 45, 46, 47, 48, 49, 50, 51, 52, 53, 54, 55, 56, 57, 58, 59, 60, 61, 62, 63, 64, 65, 66, 67, 68, 69, 70, 71, 72, 73, 74, 75, 76, 77, 78, 79, 80, 81, 82, 83, 84, 85, 86, 87, 88, 89, 90, 91, 92, 93, 94, 95, 96, 97, 98, 1, 99, 100, 101, 102, 103, 104, 105, 106, 107, 3, 108, 109, 110, 111, 112, 113, 114, 115, 116, 117, 118, 119, 120, 121, 122, 123, 124, 125, 126, 127, 128, 129, 130, 131, 132, 133, 134, 135, 136, 137, 138, 139, 140, 141, 142, 143, 144, 145, 146, 147, 148, 149, 150, 151, 152] (by decide +kernel) (by decide +kernel)
set_option maxRecDepth 20000 in
theorem gX5_units_X5_reckon : GoodIn wsX5_units (wsV RX5 205 RX5 yX5_reckon wsX5_reckon) := goodIn_app (goodIn_of _ (by decide +kernel)) ggX5_units_X5_reckon
theorem dX5_units_0 : decode cX5_units 0 = .ok (.aload_n 0, 1) := by decide +kernel
theorem dX5_units_1 : decode cX5_units 1 = .ok (.aload_n 0, 1) := by decide +kernel
theorem dX5_units_2 : decode cX5_units 2 = .ok (.iload_n 1, 1) := by decide +kernel
theorem dX5_units_3 : decode cX5_units 3 = .ok (.invokevirtual 202, 3) := by decide +kernel
theorem dX5_units_6 : decode cX5_units 6 = .ok (.ifCond .eq 26, 3) := by decide +kernel
theorem dX5_units_9 : decode cX5_units 9 = .ok (.iload_n 2, 1) := by decide +kernel
theorem dX5_units_10 : decode cX5_units 10 = .ok (.invokestatic 194, 3) := by decide +kernel
theorem dX5_units_13 : decode cX5_units 13 = .ok (.ifCond .eq 19, 3) := by decide +kernel
theorem dX5_units_16 : decode cX5_units 16 = .ok (.iload_n 3, 1) := by decide +kernel
theorem dX5_units_17 : decode cX5_units 17 = .ok (.i2l, 1) := by decide +kernel
theorem dX5_units_18 : decode cX5_units 18 = .ok (.lconst 0, 1) := by decide +kernel
theorem dX5_units_19 : decode cX5_units 19 = .ok (.ldc2_w 119, 3) := by decide +kernel
theorem dX5_units_22 : decode cX5_units 22 = .ok (.invokestatic 190, 3) := by decide +kernel
theorem dX5_units_25 : decode cX5_units 25 = .ok (.ifCond .eq 7, 3) := by decide +kernel
theorem dX5_units_28 : decode cX5_units 28 = .ok (.iconst 0, 1) := by decide +kernel
theorem dX5_units_29 : decode cX5_units 29 = .ok (.goto 4, 3) := by decide +kernel
theorem dX5_units_32 : decode cX5_units 32 = .ok (.iconst 1, 1) := by decide +kernel
theorem dX5_units_33 : decode cX5_units 33 = .ok (.putfield 56, 3) := by decide +kernel
theorem dX5_units_36 : decode cX5_units 36 = .ok (.aload_n 0, 1) := by decide +kernel
theorem dX5_units_37 : decode cX5_units 37 = .ok (.getfield 56, 3) := by decide +kernel
theorem dX5_units_40 : decode cX5_units 40 = .ok (.ifCond .le 5, 3) := by decide +kernel
theorem dX5_units_43 : decode cX5_units 43 = .ok (.iconst 0, 1) := by decide +kernel
theorem dX5_units_44 : decode cX5_units 44 = .ok (.ireturn, 1) := by decide +kernel
theorem dX5_units_45 : decode cX5_units 45 = .ok (.aload_n 0, 1) := by decide +kernel
theorem dX5_units_46 : decode cX5_units 46 = .ok (.getfield 29, 3) := by decide +kernel
theorem dX5_units_49 : decode cX5_units 49 = .ok (.bipush 36, 2) := by decide +kernel
theorem dX5_units_51 : decode cX5_units 51 = .ok (.iload_n 1, 1) := by decide +kernel
theorem dX5_units_52 : decode cX5_units 52 = .ok (.imul, 1) := by decide +kernel
theorem dX5_units_53 : decode cX5_units 53 = .ok (.iload_n 2, 1) := by decide +kernel
theorem dX5_units_54 : decode cX5_units 54 = .ok (.iadd, 1) := by decide +kernel
theorem dX5_units_55 : decode cX5_units 55 = .ok (.iaload, 1) := by decide +kernel
theorem dX5_units_56 : decode cX5_units 56 = .ok (.istore 4, 2) := by decide +kernel
theorem dX5_units_58 : decode cX5_units 58 = .ok (.aload_n 0, 1) := by decide +kernel
theorem dX5_units_59 : decode cX5_units 59 = .ok (.getfield 29, 3) := by decide +kernel
theorem dX5_units_62 : decode cX5_units 62 = .ok (.bipush 36, 2) := by decide +kernel
theorem dX5_units_64 : decode cX5_units 64 = .ok (.iload_n 1, 1) := by decide +kernel
theorem dX5_units_65 : decode cX5_units 65 = .ok (.imul, 1) := by decide +kernel
theorem dX5_units_66 : decode cX5_units 66 = .ok (.iload_n 2, 1) := by decide +kernel
theorem dX5_units_67 : decode cX5_units 67 = .ok (.iadd, 1) := by decide +kernel
theorem dX5_units_68 : decode cX5_units 68 = .ok (.iload_n 3, 1) := by decide +kernel
theorem dX5_units_69 : decode cX5_units 69 = .ok (.iastore, 1) := by decide +kernel
theorem dX5_units_70 : decode cX5_units 70 = .ok (.aload_n 0, 1) := by decide +kernel
theorem dX5_units_71 : decode cX5_units 71 = .ok (.iload_n 1, 1) := by decide +kernel
theorem dX5_units_72 : decode cX5_units 72 = .ok (.bipush 35, 2) := by decide +kernel
theorem dX5_units_74 : decode cX5_units 74 = .ok (.invokevirtual 205, 3) := by decide +kernel
theorem dX5_units_77 : decode cX5_units 77 = .ok (.ifCond .ne 23, 3) := by decide +kernel
theorem dX5_units_80 : decode cX5_units 80 = .ok (.aload_n 0, 1) := by decide +kernel
theorem dX5_units_81 : decode cX5_units 81 = .ok (.getfield 29, 3) := by decide +kernel
theorem dX5_units_84 : decode cX5_units 84 = .ok (.bipush 36, 2) := by decide +kernel
theorem dX5_units_86 : decode cX5_units 86 = .ok (.iload_n 1, 1) := by decide +kernel
theorem dX5_units_87 : decode cX5_units 87 = .ok (.imul, 1) := by decide +kernel
theorem dX5_units_88 : decode cX5_units 88 = .ok (.iload_n 2, 1) := by decide +kernel
theorem dX5_units_89 : decode cX5_units 89 = .ok (.iadd, 1) := by decide +kernel
theorem dX5_units_90 : decode cX5_units 90 = .ok (.iload 4, 2) := by decide +kernel
theorem dX5_units_92 : decode cX5_units 92 = .ok (.iastore, 1) := by decide +kernel
theorem dX5_units_93 : decode cX5_units 93 = .ok (.aload_n 0, 1) := by decide +kernel
theorem dX5_units_94 : decode cX5_units 94 = .ok (.iconst 2, 1) := by decide +kernel
theorem dX5_units_95 : decode cX5_units 95 = .ok (.putfield 56, 3) := by decide +kernel
theorem dX5_units_98 : decode cX5_units 98 = .ok (.iconst 0, 1) := by decide +kernel
theorem dX5_units_99 : decode cX5_units 99 = .ok (.ireturn, 1) := by decide +kernel
theorem dX5_units_100 : decode cX5_units 100 = .ok (.iload 4, 2) := by decide +kernel
theorem dX5_units_102 : decode cX5_units 102 = .ok (.ireturn, 1) := by decide +kernel
theorem dX5_countOf_0 : decode cX5_countOf 0 = .ok (.iconst 0, 1) := by decide +kernel
theorem dX5_countOf_1 : decode cX5_countOf 1 = .ok (.istore_n 2, 1) := by decide +kernel
theorem dX5_countOf_2 : decode cX5_countOf 2 = .ok (.iconst 0, 1) := by decide +kernel
theorem dX5_countOf_3 : decode cX5_countOf 3 = .ok (.istore_n 3, 1) := by decide +kernel
theorem dX5_countOf_4 : decode cX5_countOf 4 = .ok (.iload_n 3, 1) := by decide +kernel
theorem dX5_countOf_5 : decode cX5_countOf 5 = .ok (.aload_n 0, 1) := by decide +kernel
theorem dX5_countOf_6 : decode cX5_countOf 6 = .ok (.getfield 72, 3) := by decide +kernel
theorem dX5_countOf_9 : decode cX5_countOf 9 = .ok (.if_icmp .ge 29, 3) := by decide +kernel
theorem dX5_countOf_12 : decode cX5_countOf 12 = .ok (.aload_n 0, 1) := by decide +kernel
theorem dX5_countOf_13 : decode cX5_countOf 13 = .ok (.getfield 35, 3) := by decide +kernel
theorem dX5_countOf_16 : decode cX5_countOf 16 = .ok (.iload_n 3, 1) := by decide +kernel
theorem dX5_countOf_17 : decode cX5_countOf 17 = .ok (.iaload, 1) := by decide +kernel
theorem dX5_countOf_18 : decode cX5_countOf 18 = .ok (.iload_n 1, 1) := by decide +kernel
theorem dX5_countOf_19 : decode cX5_countOf 19 = .ok (.iconst 1, 1) := by decide +kernel
theorem dX5_countOf_20 : decode cX5_countOf 20 = .ok (.iadd, 1) := by decide +kernel
theorem dX5_countOf_21 : decode cX5_countOf 21 = .ok (.if_icmp .ne 9, 3) := by decide +kernel
theorem dX5_countOf_24 : decode cX5_countOf 24 = .ok (.iload_n 2, 1) := by decide +kernel
theorem dX5_countOf_25 : decode cX5_countOf 25 = .ok (.iconst 1, 1) := by decide +kernel
theorem dX5_countOf_26 : decode cX5_countOf 26 = .ok (.iadd, 1) := by decide +kernel
theorem dX5_countOf_27 : decode cX5_countOf 27 = .ok (.goto 4, 3) := by decide +kernel
theorem dX5_countOf_30 : decode cX5_countOf 30 = .ok (.iload_n 2, 1) := by decide +kernel
theorem dX5_countOf_31 : decode cX5_countOf 31 = .ok (.istore_n 2, 1) := by decide +kernel
theorem dX5_countOf_32 : decode cX5_countOf 32 = .ok (.iinc 3 1, 3) := by decide +kernel
theorem dX5_countOf_35 : decode cX5_countOf 35 = .ok (.goto (-31), 3) := by decide +kernel
theorem dX5_countOf_38 : decode cX5_countOf 38 = .ok (.iload_n 2, 1) := by decide +kernel
theorem dX5_countOf_39 : decode cX5_countOf 39 = .ok (.ireturn, 1) := by decide +kernel
set_option maxRecDepth 20000 in
theorem ggX5_event_X5_isPart : GoodIn wsX5_event wsX5_isPart := goodIn_r _ [17, 18, 123, 124, 125, 126, 127, 128, 129, 130, 131, 132, 133, 134, 135, 136, 137, 138, 139, 140, 141, 142, 143, 144, 145, 146, 147, 148, 149, 150, 151, 152, 153, 154, 155, 156, 157, 158, 159] (by decide +kernel) (by decide +kernel)
set_option maxRecDepth 20000 in
theorem gX5_event_X5_isPart : GoodIn wsX5_event (wsV RX5 202 RX5 yX5_isPart wsX5_isPart) := goodIn_app (goodIn_of _ (by decide +kernel)) ggX5_event_X5_isPart
set_option maxRecDepth 20000 in
theorem ggX5_event_X5_isMonth : GoodIn wsX5_event wsX5_isMonth := goodIn_r _ [21] (by decide +kernel) (by decide +kernel)
set_option maxRecDepth 20000 in
theorem gX5_event_X5_isMonth : GoodIn wsX5_event (va_wsS RX5 194 yX5_isMonth wsX5_isMonth) := goodIn_app (goodIn_of _ (by decide +kernel)) ggX5_event_X5_isMonth
set_option maxRecDepth 20000 in
theorem ggX5_event_X5_isIn : GoodIn wsX5_event wsX5_isIn := goodIn_r _ [24] (by decide +kernel) (by decide +kernel)
set_option maxRecDepth 20000 in
theorem gX5_event_X5_isIn : GoodIn wsX5_event (va_wsS RX5 190 yX5_isIn wsX5_isIn) := goodIn_app (goodIn_of _ (by decide +kernel)) ggX5_event_X5_isIn
set_option maxRecDepth 20000 in
theorem ggX5_event_X5_eventIn : GoodIn wsX5_event wsX5_eventIn := goodIn_r _ [28, 6, 8, 9, 123, 124, 125, 126, 127, 128, 129, 130, 131, 132, 133, 134, 135, 136, 137, 138, 139, 140, 141, 142, 143, 144, 145, 146, 147, 148, 149, 150, 151, 152, 153, 154, 155, 156, 157, 158, 159] (by decide +kernel) (by decide +kernel)
set_option maxRecDepth 20000 in
theorem gX5_event_X5_eventIn : GoodIn wsX5_event (wsV RX5 172 RX5 yX5_eventIn wsX5_eventIn) := goodIn_app (goodIn_of _ (by decide +kernel)) ggX5_event_X5_eventIn
set_option maxRecDepth 20000 in
theorem ggX5_event_X5_countOf : GoodIn wsX5_event wsX5_countOf := goodIn_r _ [32, 6, 8, 123, 124, 125, 126, 127, 128, 129, 130, 131, 132, 133, 134, 135, 136, 137, 138, 139, 140, 141, 142, 143, 144, 145, 146, 147, 148, 149, 150, 151, 152, 153, 154, 155, 156, 157, 158, 159] (by decide +kernel) (by decide +kernel)
set_option maxRecDepth 20000 in
theorem gX5_event_X5_countOf : GoodIn wsX5_event (wsV RX5 210 RX5 yX5_countOf wsX5_countOf) := goodIn_app (goodIn_of _ (by decide +kernel)) ggX5_event_X5_countOf
set_option maxRecDepth 20000 in
theorem ggX5_event_X5_reckon : GoodIn wsX5_event wsX5_reckon := goodIn_r _ [36, 37, 38, 39, 40, 16, 41, 1, 42, 43, 44, 45, 46, 47, 10, 48, 49, 50, 51, 52, 53, 54, 55, 56, 57, 58, 59, 60, 61, 62, 63, 64, 65, 66, 67, 68, 69, 70, 71, 72, 73, 74, 75, 76, 25, 26, 27, 28, 6, 8, 9, 77, 78, 79, 80, 11, 12, 81, 82, 83, 84, 85, 86, 87, 88, 89, 90, 91, 92, 93, 94, 95, 96, 97, 98, 99, 100, 101, 102, 103, 104, 5, 105, 106, 107, 108, 109, 110, 111, 112, 113, 114, 115, 116, 117, 118, 119, 120, 121, 122, 123, 124, 125, 126, 127, 128, 129, 130, 131, 132, 133, 134, 135, 136, 137, 138, 139, 140, 141, 142, 143, 144, 145, 146, 147, 148, 149, 150, 151, 152, 153, 154, 155, 156, 157, 158, 159] (by decide +kernel) (by decide +kernel)
set_option maxRecDepth 20000 in
theorem gX5_event_X5_reckon : GoodIn wsX5_event (wsV RX5 205 RX5 yX5_reckon wsX5_reckon) := goodIn_app (goodIn_of _ (by decide +kernel)) ggX5_event_X5_reckon
theorem dX5_event_0 : decode cX5_event 0 = .ok (.aload_n 0, 1) := by decide +kernel
theorem dX5_event_1 : decode cX5_event 1 = .ok (.iload_n 1, 1) := by decide +kernel
theorem dX5_event_2 : decode cX5_event 2 = .ok (.invokevirtual 202, 3) := by decide +kernel
theorem dX5_event_5 : decode cX5_event 5 = .ok (.ifCond .eq 36, 3) := by decide +kernel
theorem dX5_event_8 : decode cX5_event 8 = .ok (.iload_n 2, 1) := by decide +kernel
theorem dX5_event_9 : decode cX5_event 9 = .ok (.invokestatic 194, 3) := by decide +kernel
theorem dX5_event_12 : decode cX5_event 12 = .ok (.ifCond .eq 29, 3) := by decide +kernel
theorem dX5_event_15 : decode cX5_event 15 = .ok (.iload_n 2, 1) := by decide +kernel
theorem dX5_event_16 : decode cX5_event 16 = .ok (.aload_n 0, 1) := by decide +kernel
theorem dX5_event_17 : decode cX5_event 17 = .ok (.getfield 16, 3) := by decide +kernel
theorem dX5_event_20 : decode cX5_event 20 = .ok (.iload_n 1, 1) := by decide +kernel
theorem dX5_event_21 : decode cX5_event 21 = .ok (.iaload, 1) := by decide +kernel
theorem dX5_event_22 : decode cX5_event 22 = .ok (.if_icmp .lt 19, 3) := by decide +kernel
theorem dX5_event_25 : decode cX5_event 25 = .ok (.iload_n 3, 1) := by decide +kernel
theorem dX5_event_26 : decode cX5_event 26 = .ok (.i2l, 1) := by decide +kernel
theorem dX5_event_27 : decode cX5_event 27 = .ok (.lconst 0, 1) := by decide +kernel
theorem dX5_event_28 : decode cX5_event 28 = .ok (.ldc2_w 208, 3) := by decide +kernel
theorem dX5_event_31 : decode cX5_event 31 = .ok (.invokestatic 190, 3) := by decide +kernel
theorem dX5_event_34 : decode cX5_event 34 = .ok (.ifCond .eq 7, 3) := by decide +kernel
theorem dX5_event_37 : decode cX5_event 37 = .ok (.iconst 1, 1) := by decide +kernel
theorem dX5_event_38 : decode cX5_event 38 = .ok (.goto 4, 3) := by decide +kernel
theorem dX5_event_41 : decode cX5_event 41 = .ok (.iconst 0, 1) := by decide +kernel
theorem dX5_event_42 : decode cX5_event 42 = .ok (.istore 7, 2) := by decide +kernel
theorem dX5_event_44 : decode cX5_event 44 = .ok (.iload 7, 2) := by decide +kernel
theorem dX5_event_46 : decode cX5_event 46 = .ok (.ifCond .eq 42, 3) := by decide +kernel
theorem dX5_event_49 : decode cX5_event 49 = .ok (.iload_n 3, 1) := by decide +kernel
theorem dX5_event_50 : decode cX5_event 50 = .ok (.iconst 4, 1) := by decide +kernel
theorem dX5_event_51 : decode cX5_event 51 = .ok (.if_icmp .le 13, 3) := by decide +kernel
theorem dX5_event_54 : decode cX5_event 54 = .ok (.lload 4, 2) := by decide +kernel
theorem dX5_event_56 : decode cX5_event 56 = .ok (.lconst 0, 1) := by decide +kernel
theorem dX5_event_57 : decode cX5_event 57 = .ok (.lcmp, 1) := by decide +kernel
theorem dX5_event_58 : decode cX5_event 58 = .ok (.ifCond .ne 30, 3) := by decide +kernel
theorem dX5_event_61 : decode cX5_event 61 = .ok (.goto 23, 3) := by decide +kernel
theorem dX5_event_64 : decode cX5_event 64 = .ok (.lload 4, 2) := by decide +kernel
theorem dX5_event_66 : decode cX5_event 66 = .ok (.iload_n 3, 1) := by decide +kernel
theorem dX5_event_67 : decode cX5_event 67 = .ok (.ifCond .ne 7, 3) := by decide +kernel
theorem dX5_event_70 : decode cX5_event 70 = .ok (.lconst 1, 1) := by decide +kernel
theorem dX5_event_71 : decode cX5_event 71 = .ok (.goto 4, 3) := by decide +kernel
theorem dX5_event_74 : decode cX5_event 74 = .ok (.lconst 0, 1) := by decide +kernel
theorem dX5_event_75 : decode cX5_event 75 = .ok (.ldc2_w 188, 3) := by decide +kernel
theorem dX5_event_78 : decode cX5_event 78 = .ok (.invokestatic 190, 3) := by decide +kernel
theorem dX5_event_81 : decode cX5_event 81 = .ok (.ifCond .eq 7, 3) := by decide +kernel
theorem dX5_event_84 : decode cX5_event 84 = .ok (.iconst 1, 1) := by decide +kernel
theorem dX5_event_85 : decode cX5_event 85 = .ok (.goto 4, 3) := by decide +kernel
theorem dX5_event_88 : decode cX5_event 88 = .ok (.iconst 0, 1) := by decide +kernel
theorem dX5_event_89 : decode cX5_event 89 = .ok (.istore 7, 2) := by decide +kernel
theorem dX5_event_91 : decode cX5_event 91 = .ok (.iload 7, 2) := by decide +kernel
theorem dX5_event_93 : decode cX5_event 93 = .ok (.ifCond .eq 54, 3) := by decide +kernel
theorem dX5_event_96 : decode cX5_event 96 = .ok (.iload_n 3, 1) := by decide +kernel
theorem dX5_event_97 : decode cX5_event 97 = .ok (.iconst 1, 1) := by decide +kernel
theorem dX5_event_98 : decode cX5_event 98 = .ok (.if_icmp .ne 19, 3) := by decide +kernel
theorem dX5_event_101 : decode cX5_event 101 = .ok (.iload 6, 2) := by decide +kernel
theorem dX5_event_103 : decode cX5_event 103 = .ok (.i2l, 1) := by decide +kernel
theorem dX5_event_104 : decode cX5_event 104 = .ok (.lconst 1, 1) := by decide +kernel
theorem dX5_event_105 : decode cX5_event 105 = .ok (.ldc2_w 198, 3) := by decide +kernel
theorem dX5_event_108 : decode cX5_event 108 = .ok (.invokestatic 190, 3) := by decide +kernel
theorem dX5_event_111 : decode cX5_event 111 = .ok (.ifCond .eq 36, 3) := by decide +kernel
theorem dX5_event_114 : decode cX5_event 114 = .ok (.goto 29, 3) := by decide +kernel
theorem dX5_event_117 : decode cX5_event 117 = .ok (.iload_n 3, 1) := by decide +kernel
theorem dX5_event_118 : decode cX5_event 118 = .ok (.iconst 5, 1) := by decide +kernel
theorem dX5_event_119 : decode cX5_event 119 = .ok (.if_icmp .ne 19, 3) := by decide +kernel
theorem dX5_event_122 : decode cX5_event 122 = .ok (.iload 6, 2) := by decide +kernel
theorem dX5_event_124 : decode cX5_event 124 = .ok (.i2l, 1) := by decide +kernel
theorem dX5_event_125 : decode cX5_event 125 = .ok (.lconst 1, 1) := by decide +kernel
theorem dX5_event_126 : decode cX5_event 126 = .ok (.ldc2_w 119, 3) := by decide +kernel
theorem dX5_event_129 : decode cX5_event 129 = .ok (.invokestatic 190, 3) := by decide +kernel
theorem dX5_event_132 : decode cX5_event 132 = .ok (.ifCond .eq 15, 3) := by decide +kernel
theorem dX5_event_135 : decode cX5_event 135 = .ok (.goto 8, 3) := by decide +kernel
theorem dX5_event_138 : decode cX5_event 138 = .ok (.iload 6, 2) := by decide +kernel
theorem dX5_event_140 : decode cX5_event 140 = .ok (.ifCond .ne 7, 3) := by decide +kernel
theorem dX5_event_143 : decode cX5_event 143 = .ok (.iconst 1, 1) := by decide +kernel
theorem dX5_event_144 : decode cX5_event 144 = .ok (.goto 4, 3) := by decide +kernel
theorem dX5_event_147 : decode cX5_event 147 = .ok (.iconst 0, 1) := by decide +kernel
theorem dX5_event_148 : decode cX5_event 148 = .ok (.istore 7, 2) := by decide +kernel
theorem dX5_event_150 : decode cX5_event 150 = .ok (.aload_n 0, 1) := by decide +kernel
theorem dX5_event_151 : decode cX5_event 151 = .ok (.iload 7, 2) := by decide +kernel
theorem dX5_event_153 : decode cX5_event 153 = .ok (.ifCond .ne 7, 3) := by decide +kernel
theorem dX5_event_156 : decode cX5_event 156 = .ok (.iconst 1, 1) := by decide +kernel
theorem dX5_event_157 : decode cX5_event 157 = .ok (.goto 36, 3) := by decide +kernel
theorem dX5_event_160 : decode cX5_event 160 = .ok (.aload_n 0, 1) := by decide +kernel
theorem dX5_event_161 : decode cX5_event 161 = .ok (.iload_n 1, 1) := by decide +kernel
theorem dX5_event_162 : decode cX5_event 162 = .ok (.iload_n 2, 1) := by decide +kernel
theorem dX5_event_163 : decode cX5_event 163 = .ok (.invokevirtual 172, 3) := by decide +kernel
theorem dX5_event_166 : decode cX5_event 166 = .ok (.ifCond .ge 22, 3) := by decide +kernel
theorem dX5_event_169 : decode cX5_event 169 = .ok (.aload_n 0, 1) := by decide +kernel
theorem dX5_event_170 : decode cX5_event 170 = .ok (.iload_n 1, 1) := by decide +kernel
theorem dX5_event_171 : decode cX5_event 171 = .ok (.invokevirtual 210, 3) := by decide +kernel
theorem dX5_event_174 : decode cX5_event 174 = .ok (.bipush 8, 2) := by decide +kernel
theorem dX5_event_176 : decode cX5_event 176 = .ok (.if_icmp .eq 12, 3) := by decide +kernel
theorem dX5_event_179 : decode cX5_event 179 = .ok (.aload_n 0, 1) := by decide +kernel
theorem dX5_event_180 : decode cX5_event 180 = .ok (.getfield 72, 3) := by decide +kernel
theorem dX5_event_183 : decode cX5_event 183 = .ok (.bipush 40, 2) := by decide +kernel
theorem dX5_event_185 : decode cX5_event 185 = .ok (.if_icmp .ne 7, 3) := by decide +kernel
theorem dX5_event_188 : decode cX5_event 188 = .ok (.iconst 2, 1) := by decide +kernel
theorem dX5_event_189 : decode cX5_event 189 = .ok (.goto 4, 3) := by decide +kernel
theorem dX5_event_192 : decode cX5_event 192 = .ok (.iconst 0, 1) := by decide +kernel
theorem dX5_event_193 : decode cX5_event 193 = .ok (.putfield 56, 3) := by decide +kernel
theorem dX5_event_196 : decode cX5_event 196 = .ok (.aload_n 0, 1) := by decide +kernel
theorem dX5_event_197 : decode cX5_event 197 = .ok (.getfield 56, 3) := by decide +kernel
theorem dX5_event_200 : decode cX5_event 200 = .ok (.ifCond .le 5, 3) := by decide +kernel
theorem dX5_event_203 : decode cX5_event 203 = .ok (.iconst 0, 1) := by decide +kernel
theorem dX5_event_204 : decode cX5_event 204 = .ok (.ireturn, 1) := by decide +kernel
theorem dX5_event_205 : decode cX5_event 205 = .ok (.aload_n 0, 1) := by decide +kernel
theorem dX5_event_206 : decode cX5_event 206 = .ok (.getfield 35, 3) := by decide +kernel
theorem dX5_event_209 : decode cX5_event 209 = .ok (.aload_n 0, 1) := by decide +kernel
theorem dX5_event_210 : decode cX5_event 210 = .ok (.getfield 72, 3) := by decide +kernel
theorem dX5_event_213 : decode cX5_event 213 = .ok (.iload_n 1, 1) := by decide +kernel
theorem dX5_event_214 : decode cX5_event 214 = .ok (.iconst 1, 1) := by decide +kernel
theorem dX5_event_215 : decode cX5_event 215 = .ok (.iadd, 1) := by decide +kernel
theorem dX5_event_216 : decode cX5_event 216 = .ok (.iastore, 1) := by decide +kernel
theorem dX5_event_217 : decode cX5_event 217 = .ok (.aload_n 0, 1) := by decide +kernel
theorem dX5_event_218 : decode cX5_event 218 = .ok (.getfield 38, 3) := by decide +kernel
theorem dX5_event_221 : decode cX5_event 221 = .ok (.aload_n 0, 1) := by decide +kernel
theorem dX5_event_222 : decode cX5_event 222 = .ok (.getfield 72, 3) := by decide +kernel
theorem dX5_event_225 : decode cX5_event 225 = .ok (.iload_n 2, 1) := by decide +kernel
theorem dX5_event_226 : decode cX5_event 226 = .ok (.iastore, 1) := by decide +kernel
theorem dX5_event_227 : decode cX5_event 227 = .ok (.aload_n 0, 1) := by decide +kernel
theorem dX5_event_228 : decode cX5_event 228 = .ok (.getfield 41, 3) := by decide +kernel
theorem dX5_event_231 : decode cX5_event 231 = .ok (.aload_n 0, 1) := by decide +kernel
theorem dX5_event_232 : decode cX5_event 232 = .ok (.getfield 72, 3) := by decide +kernel
theorem dX5_event_235 : decode cX5_event 235 = .ok (.iload_n 3, 1) := by decide +kernel
theorem dX5_event_236 : decode cX5_event 236 = .ok (.iastore, 1) := by decide +kernel
theorem dX5_event_237 : decode cX5_event 237 = .ok (.aload_n 0, 1) := by decide +kernel
theorem dX5_event_238 : decode cX5_event 238 = .ok (.getfield 44, 3) := by decide +kernel
theorem dX5_event_241 : decode cX5_event 241 = .ok (.aload_n 0, 1) := by decide +kernel
theorem dX5_event_242 : decode cX5_event 242 = .ok (.getfield 72, 3) := by decide +kernel
theorem dX5_event_245 : decode cX5_event 245 = .ok (.lload 4, 2) := by decide +kernel
theorem dX5_event_247 : decode cX5_event 247 = .ok (.lastore, 1) := by decide +kernel
theorem dX5_event_248 : decode cX5_event 248 = .ok (.aload_n 0, 1) := by decide +kernel
theorem dX5_event_249 : decode cX5_event 249 = .ok (.getfield 47, 3) := by decide +kernel
theorem dX5_event_252 : decode cX5_event 252 = .ok (.aload_n 0, 1) := by decide +kernel
theorem dX5_event_253 : decode cX5_event 253 = .ok (.getfield 72, 3) := by decide +kernel
theorem dX5_event_256 : decode cX5_event 256 = .ok (.iload 6, 2) := by decide +kernel
theorem dX5_event_258 : decode cX5_event 258 = .ok (.iastore, 1) := by decide +kernel
theorem dX5_event_259 : decode cX5_event 259 = .ok (.aload_n 0, 1) := by decide +kernel
theorem dX5_event_260 : decode cX5_event 260 = .ok (.aload_n 0, 1) := by decide +kernel
theorem dX5_event_261 : decode cX5_event 261 = .ok (.getfield 72, 3) := by decide +kernel
theorem dX5_event_264 : decode cX5_event 264 = .ok (.iconst 1, 1) := by decide +kernel
theorem dX5_event_265 : decode cX5_event 265 = .ok (.iadd, 1) := by decide +kernel
theorem dX5_event_266 : decode cX5_event 266 = .ok (.putfield 72, 3) := by decide +kernel
theorem dX5_event_269 : decode cX5_event 269 = .ok (.aload_n 0, 1) := by decide +kernel
theorem dX5_event_270 : decode cX5_event 270 = .ok (.iload_n 1, 1) := by decide +kernel
theorem dX5_event_271 : decode cX5_event 271 = .ok (.bipush 35, 2) := by decide +kernel
theorem dX5_event_273 : decode cX5_event 273 = .ok (.invokevirtual 205, 3) := by decide +kernel
theorem dX5_event_276 : decode cX5_event 276 = .ok (.ifCond .ne 20, 3) := by decide +kernel
theorem dX5_event_279 : decode cX5_event 279 = .ok (.aload_n 0, 1) := by decide +kernel
theorem dX5_event_280 : decode cX5_event 280 = .ok (.aload_n 0, 1) := by decide +kernel
theorem dX5_event_281 : decode cX5_event 281 = .ok (.getfield 72, 3) := by decide +kernel
theorem dX5_event_284 : decode cX5_event 284 = .ok (.iconst 1, 1) := by decide +kernel
theorem dX5_event_285 : decode cX5_event 285 = .ok (.isub, 1) := by decide +kernel
theorem dX5_event_286 : decode cX5_event 286 = .ok (.putfield 72, 3) := by decide +kernel
theorem dX5_event_289 : decode cX5_event 289 = .ok (.aload_n 0, 1) := by decide +kernel
theorem dX5_event_290 : decode cX5_event 290 = .ok (.iconst 2, 1) := by decide +kernel
theorem dX5_event_291 : decode cX5_event 291 = .ok (.putfield 56, 3) := by decide +kernel
theorem dX5_event_294 : decode cX5_event 294 = .ok (.iconst 0, 1) := by decide +kernel
theorem dX5_event_295 : decode cX5_event 295 = .ok (.ireturn, 1) := by decide +kernel
theorem dX5_event_296 : decode cX5_event 296 = .ok (.aload_n 0, 1) := by decide +kernel
theorem dX5_event_297 : decode cX5_event 297 = .ok (.getfield 72, 3) := by decide +kernel
theorem dX5_event_300 : decode cX5_event 300 = .ok (.iconst 1, 1) := by decide +kernel
theorem dX5_event_301 : decode cX5_event 301 = .ok (.isub, 1) := by decide +kernel
theorem dX5_event_302 : decode cX5_event 302 = .ok (.ireturn, 1) := by decide +kernel
theorem dX5_isEvent_0 : decode cX5_isEvent 0 = .ok (.iload_n 1, 1) := by decide +kernel
theorem dX5_isEvent_1 : decode cX5_isEvent 1 = .ok (.ifCond .lt 24, 3) := by decide +kernel
theorem dX5_isEvent_4 : decode cX5_isEvent 4 = .ok (.iload_n 1, 1) := by decide +kernel
theorem dX5_isEvent_5 : decode cX5_isEvent 5 = .ok (.aload_n 0, 1) := by decide +kernel
theorem dX5_isEvent_6 : decode cX5_isEvent 6 = .ok (.getfield 72, 3) := by decide +kernel
theorem dX5_isEvent_9 : decode cX5_isEvent 9 = .ok (.if_icmp .ge 16, 3) := by decide +kernel
theorem dX5_isEvent_12 : decode cX5_isEvent 12 = .ok (.aload_n 0, 1) := by decide +kernel
theorem dX5_isEvent_13 : decode cX5_isEvent 13 = .ok (.getfield 35, 3) := by decide +kernel
theorem dX5_isEvent_16 : decode cX5_isEvent 16 = .ok (.iload_n 1, 1) := by decide +kernel
theorem dX5_isEvent_17 : decode cX5_isEvent 17 = .ok (.iaload, 1) := by decide +kernel
theorem dX5_isEvent_18 : decode cX5_isEvent 18 = .ok (.ifCond .le 7, 3) := by decide +kernel
theorem dX5_isEvent_21 : decode cX5_isEvent 21 = .ok (.iconst 1, 1) := by decide +kernel
theorem dX5_isEvent_22 : decode cX5_isEvent 22 = .ok (.goto 4, 3) := by decide +kernel
theorem dX5_isEvent_25 : decode cX5_isEvent 25 = .ok (.iconst 0, 1) := by decide +kernel
theorem dX5_isEvent_26 : decode cX5_isEvent 26 = .ok (.ireturn, 1) := by decide +kernel
set_option maxRecDepth 20000 in
theorem ggX5_strike_X5_isEvent : GoodIn wsX5_strike wsX5_isEvent := goodIn_r _ [7, 8, 2, 109, 110, 111, 112, 113, 114, 115, 116, 117, 118, 119, 120, 121, 122, 123, 124, 125, 126, 127, 128, 129, 130, 131, 132, 133, 134, 135, 136, 137, 138, 139, 140, 141, 142, 143, 144, 145] (by decide +kernel) (by decide +kernel)
set_option maxRecDepth 20000 in
theorem gX5_strike_X5_isEvent : GoodIn wsX5_strike (wsV RX5 214 RX5 yX5_isEvent wsX5_isEvent) := goodIn_app (goodIn_of _ (by decide +kernel)) ggX5_strike_X5_isEvent
set_option maxRecDepth 20000 in
theorem ggX5_strike_X5_reckon : GoodIn wsX5_strike wsX5_reckon := goodIn_r _ [12, 13, 14, 15, 16, 6, 17, 18, 19, 20, 21, 22, 23, 24, 25, 26, 27, 28, 29, 30, 31, 32, 33, 34, 35, 36, 37, 38, 39, 40, 41, 42, 43, 44, 45, 46, 47, 48, 49, 50, 51, 52, 53, 54, 55, 56, 57, 58, 8, 2, 59, 60, 61, 62, 63, 64, 65, 66, 67, 68, 69, 70, 71, 72, 73, 74, 75, 76, 77, 78, 79, 80, 81, 82, 83, 84, 85, 86, 87, 88, 89, 90, 91, 92, 93, 94, 95, 96, 97, 98, 99, 100, 101, 102, 103, 104, 105, 106, 107, 108, 109, 110, 111, 112, 113, 114, 115, 116, 117, 118, 119, 120, 121, 122, 123, 124, 125, 126, 127, 128, 129, 130, 131, 132, 133, 134, 135, 136, 137, 138, 139, 140, 141, 142, 143, 144, 145] (by decide +kernel) (by decide +kernel)
set_option maxRecDepth 20000 in
theorem gX5_strike_X5_reckon : GoodIn wsX5_strike (wsV RX5 205 RX5 yX5_reckon wsX5_reckon) := goodIn_app (goodIn_of _ (by decide +kernel)) ggX5_strike_X5_reckon
theorem dX5_strike_0 : decode cX5_strike 0 = .ok (.aload_n 0, 1) := by decide +kernel
theorem dX5_strike_1 : decode cX5_strike 1 = .ok (.iconst 0, 1) := by decide +kernel
theorem dX5_strike_2 : decode cX5_strike 2 = .ok (.putfield 56, 3) := by decide +kernel
theorem dX5_strike_5 : decode cX5_strike 5 = .ok (.aload_n 0, 1) := by decide +kernel
theorem dX5_strike_6 : decode cX5_strike 6 = .ok (.iload_n 1, 1) := by decide +kernel
theorem dX5_strike_7 : decode cX5_strike 7 = .ok (.invokevirtual 214, 3) := by decide +kernel
theorem dX5_strike_10 : decode cX5_strike 10 = .ok (.ifCond .ne 5, 3) := by decide +kernel
theorem dX5_strike_13 : decode cX5_strike 13 = .ok (.iconst 0, 1) := by decide +kernel
theorem dX5_strike_14 : decode cX5_strike 14 = .ok (.ireturn, 1) := by decide +kernel
theorem dX5_strike_15 : decode cX5_strike 15 = .ok (.aload_n 0, 1) := by decide +kernel
theorem dX5_strike_16 : decode cX5_strike 16 = .ok (.getfield 35, 3) := by decide +kernel
theorem dX5_strike_19 : decode cX5_strike 19 = .ok (.iload_n 1, 1) := by decide +kernel
theorem dX5_strike_20 : decode cX5_strike 20 = .ok (.iaload, 1) := by decide +kernel
theorem dX5_strike_21 : decode cX5_strike 21 = .ok (.istore_n 2, 1) := by decide +kernel
theorem dX5_strike_22 : decode cX5_strike 22 = .ok (.aload_n 0, 1) := by decide +kernel
theorem dX5_strike_23 : decode cX5_strike 23 = .ok (.getfield 35, 3) := by decide +kernel
theorem dX5_strike_26 : decode cX5_strike 26 = .ok (.iload_n 1, 1) := by decide +kernel
theorem dX5_strike_27 : decode cX5_strike 27 = .ok (.iconst 0, 1) := by decide +kernel
theorem dX5_strike_28 : decode cX5_strike 28 = .ok (.iastore, 1) := by decide +kernel
theorem dX5_strike_29 : decode cX5_strike 29 = .ok (.aload_n 0, 1) := by decide +kernel
theorem dX5_strike_30 : decode cX5_strike 30 = .ok (.iload_n 2, 1) := by decide +kernel
theorem dX5_strike_31 : decode cX5_strike 31 = .ok (.iconst 1, 1) := by decide +kernel
theorem dX5_strike_32 : decode cX5_strike 32 = .ok (.isub, 1) := by decide +kernel
theorem dX5_strike_33 : decode cX5_strike 33 = .ok (.bipush 35, 2) := by decide +kernel
theorem dX5_strike_35 : decode cX5_strike 35 = .ok (.invokevirtual 205, 3) := by decide +kernel
theorem dX5_strike_38 : decode cX5_strike 38 = .ok (.istore_n 3, 1) := by decide +kernel
theorem dX5_strike_39 : decode cX5_strike 39 = .ok (.aload_n 0, 1) := by decide +kernel
theorem dX5_strike_40 : decode cX5_strike 40 = .ok (.getfield 35, 3) := by decide +kernel
theorem dX5_strike_43 : decode cX5_strike 43 = .ok (.iload_n 1, 1) := by decide +kernel
theorem dX5_strike_44 : decode cX5_strike 44 = .ok (.iload_n 3, 1) := by decide +kernel
theorem dX5_strike_45 : decode cX5_strike 45 = .ok (.ifCond .eq 7, 3) := by decide +kernel
theorem dX5_strike_48 : decode cX5_strike 48 = .ok (.iconst 0, 1) := by decide +kernel
theorem dX5_strike_49 : decode cX5_strike 49 = .ok (.goto 4, 3) := by decide +kernel
theorem dX5_strike_52 : decode cX5_strike 52 = .ok (.iload_n 2, 1) := by decide +kernel
theorem dX5_strike_53 : decode cX5_strike 53 = .ok (.iastore, 1) := by decide +kernel
theorem dX5_strike_54 : decode cX5_strike 54 = .ok (.iload_n 3, 1) := by decide +kernel
theorem dX5_strike_55 : decode cX5_strike 55 = .ok (.ireturn, 1) := by decide +kernel
set_option maxRecDepth 20000 in
theorem ggX5_told_X5_isEvent : GoodIn wsX5_told wsX5_isEvent := goodIn_r _ [10, 11, 2, 12, 13, 14, 15, 16, 17, 18, 19, 20, 21, 22, 23, 24, 25, 26, 27, 28, 29, 30, 31, 32, 33, 34, 35, 36, 37, 38, 39, 40, 41, 42, 43, 44, 45, 46, 47, 48] (by decide +kernel) (by decide +kernel)
set_option maxRecDepth 20000 in
theorem gX5_told_X5_isEvent : GoodIn wsX5_told (wsV RX5 214 RX5 yX5_isEvent wsX5_isEvent) := goodIn_app (goodIn_of _ (by decide +kernel)) ggX5_told_X5_isEvent
theorem dX5_told_0 : decode cX5_told 0 = .ok (.aload_n 0, 1) := by decide +kernel
theorem dX5_told_1 : decode cX5_told 1 = .ok (.iconst 0, 1) := by decide +kernel
theorem dX5_told_2 : decode cX5_told 2 = .ok (.putfield 56, 3) := by decide +kernel
theorem dX5_told_5 : decode cX5_told 5 = .ok (.aload_n 0, 1) := by decide +kernel
theorem dX5_told_6 : decode cX5_told 6 = .ok (.iload_n 1, 1) := by decide +kernel
theorem dX5_told_7 : decode cX5_told 7 = .ok (.invokevirtual 214, 3) := by decide +kernel
theorem dX5_told_10 : decode cX5_told 10 = .ok (.ifCond .eq 12, 3) := by decide +kernel
theorem dX5_told_13 : decode cX5_told 13 = .ok (.iload_n 2, 1) := by decide +kernel
theorem dX5_told_14 : decode cX5_told 14 = .ok (.ifCond .lt 8, 3) := by decide +kernel
theorem dX5_told_17 : decode cX5_told 17 = .ok (.iload_n 2, 1) := by decide +kernel
theorem dX5_told_18 : decode cX5_told 18 = .ok (.iconst 3, 1) := by decide +kernel
theorem dX5_told_19 : decode cX5_told 19 = .ok (.if_icmp .le 5, 3) := by decide +kernel
theorem dX5_told_22 : decode cX5_told 22 = .ok (.iconst (-1), 1) := by decide +kernel
theorem dX5_told_23 : decode cX5_told 23 = .ok (.ireturn, 1) := by decide +kernel
theorem dX5_told_24 : decode cX5_told 24 = .ok (.iload_n 2, 1) := by decide +kernel
theorem dX5_told_25 : decode cX5_told 25 = .ok (.ifCond .ne 14, 3) := by decide +kernel
theorem dX5_told_28 : decode cX5_told 28 = .ok (.aload_n 0, 1) := by decide +kernel
theorem dX5_told_29 : decode cX5_told 29 = .ok (.getfield 35, 3) := by decide +kernel
theorem dX5_told_32 : decode cX5_told 32 = .ok (.iload_n 1, 1) := by decide +kernel
theorem dX5_told_33 : decode cX5_told 33 = .ok (.iaload, 1) := by decide +kernel
theorem dX5_told_34 : decode cX5_told 34 = .ok (.iconst 1, 1) := by decide +kernel
theorem dX5_told_35 : decode cX5_told 35 = .ok (.isub, 1) := by decide +kernel
theorem dX5_told_36 : decode cX5_told 36 = .ok (.goto 37, 3) := by decide +kernel
theorem dX5_told_39 : decode cX5_told 39 = .ok (.iload_n 2, 1) := by decide +kernel
theorem dX5_told_40 : decode cX5_told 40 = .ok (.iconst 1, 1) := by decide +kernel
theorem dX5_told_41 : decode cX5_told 41 = .ok (.if_icmp .ne 12, 3) := by decide +kernel
theorem dX5_told_44 : decode cX5_told 44 = .ok (.aload_n 0, 1) := by decide +kernel
theorem dX5_told_45 : decode cX5_told 45 = .ok (.getfield 38, 3) := by decide +kernel
theorem dX5_told_48 : decode cX5_told 48 = .ok (.iload_n 1, 1) := by decide +kernel
theorem dX5_told_49 : decode cX5_told 49 = .ok (.iaload, 1) := by decide +kernel
theorem dX5_told_50 : decode cX5_told 50 = .ok (.goto 23, 3) := by decide +kernel
theorem dX5_told_53 : decode cX5_told 53 = .ok (.iload_n 2, 1) := by decide +kernel
theorem dX5_told_54 : decode cX5_told 54 = .ok (.iconst 2, 1) := by decide +kernel
theorem dX5_told_55 : decode cX5_told 55 = .ok (.if_icmp .ne 12, 3) := by decide +kernel
theorem dX5_told_58 : decode cX5_told 58 = .ok (.aload_n 0, 1) := by decide +kernel
theorem dX5_told_59 : decode cX5_told 59 = .ok (.getfield 41, 3) := by decide +kernel
theorem dX5_told_62 : decode cX5_told 62 = .ok (.iload_n 1, 1) := by decide +kernel
theorem dX5_told_63 : decode cX5_told 63 = .ok (.iaload, 1) := by decide +kernel
theorem dX5_told_64 : decode cX5_told 64 = .ok (.goto 9, 3) := by decide +kernel
theorem dX5_told_67 : decode cX5_told 67 = .ok (.aload_n 0, 1) := by decide +kernel
theorem dX5_told_68 : decode cX5_told 68 = .ok (.getfield 47, 3) := by decide +kernel
theorem dX5_told_71 : decode cX5_told 71 = .ok (.iload_n 1, 1) := by decide +kernel
theorem dX5_told_72 : decode cX5_told 72 = .ok (.iaload, 1) := by decide +kernel
theorem dX5_told_73 : decode cX5_told 73 = .ok (.ireturn, 1) := by decide +kernel
set_option maxRecDepth 20000 in
theorem ggX5_value_X5_isPart : GoodIn wsX5_value wsX5_isPart := goodIn_r _ [12, 13, 113, 114, 115, 116, 117, 118, 119, 120, 121, 122, 123, 124, 125, 126, 127, 128, 129, 130, 131, 132, 133, 134, 135, 136, 137, 138, 139, 140, 141, 142, 143, 144, 145, 146, 147, 148, 149] (by decide +kernel) (by decide +kernel)
set_option maxRecDepth 20000 in
theorem gX5_value_X5_isPart : GoodIn wsX5_value (wsV RX5 202 RX5 yX5_isPart wsX5_isPart) := goodIn_app (goodIn_of _ (by decide +kernel)) ggX5_value_X5_isPart
set_option maxRecDepth 20000 in
theorem ggX5_value_X5_isMonth : GoodIn wsX5_value wsX5_isMonth := goodIn_r _ [16] (by decide +kernel) (by decide +kernel)
set_option maxRecDepth 20000 in
theorem gX5_value_X5_isMonth : GoodIn wsX5_value (va_wsS RX5 194 yX5_isMonth wsX5_isMonth) := goodIn_app (goodIn_of _ (by decide +kernel)) ggX5_value_X5_isMonth
set_option maxRecDepth 20000 in
theorem ggX5_value_X5_reckon : GoodIn wsX5_value wsX5_reckon := goodIn_r _ [20, 21, 22, 23, 24, 11, 25, 26, 27, 2, 28, 6, 29, 7, 30, 31, 32, 33, 34, 35, 36, 3, 4, 5, 37, 38, 39, 40, 41, 42, 43, 44, 45, 46, 47, 48, 49, 50, 51, 52, 53, 54, 55, 56, 57, 58, 59, 60, 61, 62, 63, 64, 65, 66, 67, 68, 69, 70, 71, 72, 73, 74, 75, 76, 77, 78, 79, 80, 81, 82, 83, 84, 85, 86, 87, 88, 89, 90, 91, 92, 93, 94, 95, 96, 97, 98, 99, 100, 101, 102, 103, 104, 105, 106, 107, 108, 109, 110, 111, 112, 113, 114, 115, 116, 117, 118, 119, 120, 121, 122, 123, 124, 125, 126, 127, 128, 129, 130, 131, 132, 133, 134, 135, 136, 137, 138, 139, 140, 141, 142, 143, 144, 145, 146, 147, 148, 149] (by decide +kernel) (by decide +kernel)
set_option maxRecDepth 20000 in
theorem gX5_value_X5_reckon : GoodIn wsX5_value (wsV RX5 205 RX5 yX5_reckon wsX5_reckon) := goodIn_app (goodIn_of _ (by decide +kernel)) ggX5_value_X5_reckon
set_option maxRecDepth 20000 in
theorem ggX5_value_X5_book : GoodIn wsX5_value wsX5_book := goodIn_r _ [56, 2, 3, 113, 114, 115, 116, 117, 118, 119, 120, 121, 122, 123, 124, 125, 126, 127, 128, 129, 130, 131, 132, 133, 134, 135, 136, 137, 138, 139, 140, 141, 142, 143, 144, 145, 146, 147, 148, 149] (by decide +kernel) (by decide +kernel)
set_option maxRecDepth 20000 in
theorem gX5_value_X5_book : GoodIn wsX5_value (wsV RX5 75 RX5 yX5_book wsX5_book) := goodIn_app (goodIn_of _ (by decide +kernel)) ggX5_value_X5_book
theorem dX5_value_0 : decode cX5_value 0 = .ok (.aload_n 0, 1) := by decide +kernel
theorem dX5_value_1 : decode cX5_value 1 = .ok (.aload_n 0, 1) := by decide +kernel
theorem dX5_value_2 : decode cX5_value 2 = .ok (.iload_n 1, 1) := by decide +kernel
theorem dX5_value_3 : decode cX5_value 3 = .ok (.invokevirtual 202, 3) := by decide +kernel
theorem dX5_value_6 : decode cX5_value 6 = .ok (.ifCond .eq 24, 3) := by decide +kernel
theorem dX5_value_9 : decode cX5_value 9 = .ok (.iload_n 2, 1) := by decide +kernel
theorem dX5_value_10 : decode cX5_value 10 = .ok (.invokestatic 194, 3) := by decide +kernel
theorem dX5_value_13 : decode cX5_value 13 = .ok (.ifCond .eq 17, 3) := by decide +kernel
theorem dX5_value_16 : decode cX5_value 16 = .ok (.iload_n 3, 1) := by decide +kernel
theorem dX5_value_17 : decode cX5_value 17 = .ok (.ifCond .lt 13, 3) := by decide +kernel
theorem dX5_value_20 : decode cX5_value 20 = .ok (.iload_n 3, 1) := by decide +kernel
theorem dX5_value_21 : decode cX5_value 21 = .ok (.bipush 6, 2) := by decide +kernel
theorem dX5_value_23 : decode cX5_value 23 = .ok (.if_icmp .gt 7, 3) := by decide +kernel
theorem dX5_value_26 : decode cX5_value 26 = .ok (.iconst 0, 1) := by decide +kernel
theorem dX5_value_27 : decode cX5_value 27 = .ok (.goto 4, 3) := by decide +kernel
theorem dX5_value_30 : decode cX5_value 30 = .ok (.iconst 1, 1) := by decide +kernel
theorem dX5_value_31 : decode cX5_value 31 = .ok (.putfield 56, 3) := by decide +kernel
theorem dX5_value_34 : decode cX5_value 34 = .ok (.aload_n 0, 1) := by decide +kernel
theorem dX5_value_35 : decode cX5_value 35 = .ok (.getfield 56, 3) := by decide +kernel
theorem dX5_value_38 : decode cX5_value 38 = .ok (.ifCond .le 5, 3) := by decide +kernel
theorem dX5_value_41 : decode cX5_value 41 = .ok (.lconst 0, 1) := by decide +kernel
theorem dX5_value_42 : decode cX5_value 42 = .ok (.lreturn, 1) := by decide +kernel
theorem dX5_value_43 : decode cX5_value 43 = .ok (.aload_n 0, 1) := by decide +kernel
theorem dX5_value_44 : decode cX5_value 44 = .ok (.iload_n 1, 1) := by decide +kernel
theorem dX5_value_45 : decode cX5_value 45 = .ok (.iload_n 2, 1) := by decide +kernel
theorem dX5_value_46 : decode cX5_value 46 = .ok (.invokevirtual 205, 3) := by decide +kernel
theorem dX5_value_49 : decode cX5_value 49 = .ok (.pop, 1) := by decide +kernel
theorem dX5_value_50 : decode cX5_value 50 = .ok (.iload_n 3, 1) := by decide +kernel
theorem dX5_value_51 : decode cX5_value 51 = .ok (.tableswitch 67 0 5 #[37, 42, 47, 52, 57, 62], 37) := by decide +kernel
theorem dX5_value_88 : decode cX5_value 88 = .ok (.aload_n 0, 1) := by decide +kernel
theorem dX5_value_89 : decode cX5_value 89 = .ok (.getfield 65, 3) := by decide +kernel
theorem dX5_value_92 : decode cX5_value 92 = .ok (.lreturn, 1) := by decide +kernel
theorem dX5_value_93 : decode cX5_value 93 = .ok (.aload_n 0, 1) := by decide +kernel
theorem dX5_value_94 : decode cX5_value 94 = .ok (.getfield 69, 3) := by decide +kernel
theorem dX5_value_97 : decode cX5_value 97 = .ok (.lreturn, 1) := by decide +kernel
theorem dX5_value_98 : decode cX5_value 98 = .ok (.aload_n 0, 1) := by decide +kernel
theorem dX5_value_99 : decode cX5_value 99 = .ok (.invokevirtual 75, 3) := by decide +kernel
theorem dX5_value_102 : decode cX5_value 102 = .ok (.lreturn, 1) := by decide +kernel
theorem dX5_value_103 : decode cX5_value 103 = .ok (.aload_n 0, 1) := by decide +kernel
theorem dX5_value_104 : decode cX5_value 104 = .ok (.getfield 106, 3) := by decide +kernel
theorem dX5_value_107 : decode cX5_value 107 = .ok (.lreturn, 1) := by decide +kernel
theorem dX5_value_108 : decode cX5_value 108 = .ok (.aload_n 0, 1) := by decide +kernel
theorem dX5_value_109 : decode cX5_value 109 = .ok (.getfield 109, 3) := by decide +kernel
theorem dX5_value_112 : decode cX5_value 112 = .ok (.lreturn, 1) := by decide +kernel
theorem dX5_value_113 : decode cX5_value 113 = .ok (.aload_n 0, 1) := by decide +kernel
theorem dX5_value_114 : decode cX5_value 114 = .ok (.getfield 79, 3) := by decide +kernel
theorem dX5_value_117 : decode cX5_value 117 = .ok (.lreturn, 1) := by decide +kernel
theorem dX5_value_118 : decode cX5_value 118 = .ok (.aload_n 0, 1) := by decide +kernel
theorem dX5_value_119 : decode cX5_value 119 = .ok (.getfield 85, 3) := by decide +kernel
theorem dX5_value_122 : decode cX5_value 122 = .ok (.i2l, 1) := by decide +kernel
theorem dX5_value_123 : decode cX5_value 123 = .ok (.lreturn, 1) := by decide +kernel
set_option maxRecDepth 20000 in
theorem ggX5_charge_X5_isPart : GoodIn wsX5_charge wsX5_isPart := goodIn_r _ [7, 8, 113, 114, 115, 116, 117, 118, 119, 120, 121, 122, 123, 124, 125, 126, 127, 128, 129, 130, 131, 132, 133, 134, 135, 136, 137, 138, 139, 140, 141, 142, 143, 144, 145, 146, 147, 148, 149] (by decide +kernel) (by decide +kernel)
set_option maxRecDepth 20000 in
theorem gX5_charge_X5_isPart : GoodIn wsX5_charge (wsV RX5 202 RX5 yX5_isPart wsX5_isPart) := goodIn_app (goodIn_of _ (by decide +kernel)) ggX5_charge_X5_isPart
set_option maxRecDepth 20000 in
theorem ggX5_charge_X5_isMonth : GoodIn wsX5_charge wsX5_isMonth := goodIn_r _ [11] (by decide +kernel) (by decide +kernel)
set_option maxRecDepth 20000 in
theorem gX5_charge_X5_isMonth : GoodIn wsX5_charge (va_wsS RX5 194 yX5_isMonth wsX5_isMonth) := goodIn_app (goodIn_of _ (by decide +kernel)) ggX5_charge_X5_isMonth
set_option maxRecDepth 20000 in
theorem ggX5_charge_X5_reckon : GoodIn wsX5_charge wsX5_reckon := goodIn_r _ [15, 16, 17, 18, 19, 6, 20, 21, 22, 23, 24, 25, 26, 27, 28, 29, 30, 31, 32, 33, 34, 35, 36, 37, 38, 39, 40, 2, 41, 42, 43, 44, 45, 46, 47, 48, 49, 50, 51, 52, 53, 54, 55, 56, 57, 58, 59, 60, 61, 62, 63, 64, 65, 66, 67, 68, 69, 70, 71, 72, 73, 74, 75, 76, 77, 78, 79, 80, 81, 82, 83, 84, 85, 86, 87, 88, 89, 90, 91, 92, 93, 94, 95, 96, 97, 98, 99, 100, 101, 102, 103, 104, 105, 106, 107, 108, 109, 110, 111, 112, 113, 114, 115, 116, 117, 118, 119, 120, 121, 122, 123, 124, 125, 126, 127, 128, 129, 130, 131, 132, 133, 134, 135, 136, 137, 138, 139, 140, 141, 142, 143, 144, 145, 146, 147, 148, 149] (by decide +kernel) (by decide +kernel)
set_option maxRecDepth 20000 in
theorem gX5_charge_X5_reckon : GoodIn wsX5_charge (wsV RX5 205 RX5 yX5_reckon wsX5_reckon) := goodIn_app (goodIn_of _ (by decide +kernel)) ggX5_charge_X5_reckon
theorem dX5_charge_0 : decode cX5_charge 0 = .ok (.aload_n 0, 1) := by decide +kernel
theorem dX5_charge_1 : decode cX5_charge 1 = .ok (.aload_n 0, 1) := by decide +kernel
theorem dX5_charge_2 : decode cX5_charge 2 = .ok (.iload_n 1, 1) := by decide +kernel
theorem dX5_charge_3 : decode cX5_charge 3 = .ok (.invokevirtual 202, 3) := by decide +kernel
theorem dX5_charge_6 : decode cX5_charge 6 = .ok (.ifCond .eq 14, 3) := by decide +kernel
theorem dX5_charge_9 : decode cX5_charge 9 = .ok (.iload_n 2, 1) := by decide +kernel
theorem dX5_charge_10 : decode cX5_charge 10 = .ok (.invokestatic 194, 3) := by decide +kernel
theorem dX5_charge_13 : decode cX5_charge 13 = .ok (.ifCond .eq 7, 3) := by decide +kernel
theorem dX5_charge_16 : decode cX5_charge 16 = .ok (.iconst 0, 1) := by decide +kernel
theorem dX5_charge_17 : decode cX5_charge 17 = .ok (.goto 4, 3) := by decide +kernel
theorem dX5_charge_20 : decode cX5_charge 20 = .ok (.iconst 1, 1) := by decide +kernel
theorem dX5_charge_21 : decode cX5_charge 21 = .ok (.putfield 56, 3) := by decide +kernel
theorem dX5_charge_24 : decode cX5_charge 24 = .ok (.aload_n 0, 1) := by decide +kernel
theorem dX5_charge_25 : decode cX5_charge 25 = .ok (.getfield 56, 3) := by decide +kernel
theorem dX5_charge_28 : decode cX5_charge 28 = .ok (.ifCond .le 5, 3) := by decide +kernel
theorem dX5_charge_31 : decode cX5_charge 31 = .ok (.lconst 0, 1) := by decide +kernel
theorem dX5_charge_32 : decode cX5_charge 32 = .ok (.lreturn, 1) := by decide +kernel
theorem dX5_charge_33 : decode cX5_charge 33 = .ok (.aload_n 0, 1) := by decide +kernel
theorem dX5_charge_34 : decode cX5_charge 34 = .ok (.iload_n 1, 1) := by decide +kernel
theorem dX5_charge_35 : decode cX5_charge 35 = .ok (.iload_n 2, 1) := by decide +kernel
theorem dX5_charge_36 : decode cX5_charge 36 = .ok (.invokevirtual 205, 3) := by decide +kernel
theorem dX5_charge_39 : decode cX5_charge 39 = .ok (.pop, 1) := by decide +kernel
theorem dX5_charge_40 : decode cX5_charge 40 = .ok (.aload_n 0, 1) := by decide +kernel
theorem dX5_charge_41 : decode cX5_charge 41 = .ok (.getfield 152, 3) := by decide +kernel
theorem dX5_charge_44 : decode cX5_charge 44 = .ok (.lreturn, 1) := by decide +kernel
set_option maxRecDepth 20000 in
theorem ggX5_without_X5_isPart : GoodIn wsX5_without wsX5_isPart := goodIn_r _ [9, 10, 110, 111, 112, 113, 114, 115, 116, 117, 118, 119, 120, 121, 122, 123, 124, 125, 126, 127, 128, 129, 130, 131, 132, 133, 134, 135, 136, 137, 138, 139, 140, 141, 142, 143, 144, 145, 146] (by decide +kernel) (by decide +kernel)
set_option maxRecDepth 20000 in
theorem gX5_without_X5_isPart : GoodIn wsX5_without (wsV RX5 202 RX5 yX5_isPart wsX5_isPart) := goodIn_app (goodIn_of _ (by decide +kernel)) ggX5_without_X5_isPart
set_option maxRecDepth 20000 in
theorem ggX5_without_X5_isMonth : GoodIn wsX5_without wsX5_isMonth := goodIn_r _ [13] (by decide +kernel) (by decide +kernel)
set_option maxRecDepth 20000 in
theorem gX5_without_X5_isMonth : GoodIn wsX5_without (va_wsS RX5 194 yX5_isMonth wsX5_isMonth) := goodIn_app (goodIn_of _ (by decide +kernel)) ggX5_without_X5_isMonth
set_option maxRecDepth 20000 in
theorem ggX5_without_X5_go : GoodIn wsX5_without wsX5_go := goodIn_r _ [17, 3, 18, 19, 20, 21, 22, 23, 24, 25, 4, 26, 27, 28, 8, 29, 30, 31, 32, 33, 34, 35, 36, 37, 38, 39, 40, 41, 42, 43, 44, 45, 46, 47, 48, 49, 50, 51, 52, 53, 54, 55, 56, 57, 58, 59, 60, 61, 62, 63, 64, 65, 66, 67, 68, 69, 70, 71, 72, 73, 74, 75, 76, 77, 78, 79, 80, 81, 82, 83, 84, 85, 86, 87, 88, 89, 90, 91, 92, 93, 94, 95, 96, 97, 98, 99, 100, 101, 102, 103, 104, 105, 106, 107, 108, 109, 110, 111, 112, 113, 114, 115, 116, 117, 118, 119, 120, 121, 122, 123, 124, 125, 126, 127, 128, 129, 130, 131, 132, 133, 134, 135, 136, 137, 138, 139, 140, 141, 142, 143, 144, 145, 146] (by decide +kernel) (by decide +kernel)
set_option maxRecDepth 20000 in
theorem gX5_without_X5_go : GoodIn wsX5_without (wsV RX5 184 RX5 yX5_go wsX5_go) := goodIn_app (goodIn_of _ (by decide +kernel)) ggX5_without_X5_go
theorem dX5_without_0 : decode cX5_without 0 = .ok (.aload_n 0, 1) := by decide +kernel
theorem dX5_without_1 : decode cX5_without 1 = .ok (.aload_n 0, 1) := by decide +kernel
theorem dX5_without_2 : decode cX5_without 2 = .ok (.iload_n 1, 1) := by decide +kernel
theorem dX5_without_3 : decode cX5_without 3 = .ok (.invokevirtual 202, 3) := by decide +kernel
theorem dX5_without_6 : decode cX5_without 6 = .ok (.ifCond .eq 14, 3) := by decide +kernel
theorem dX5_without_9 : decode cX5_without 9 = .ok (.iload_n 2, 1) := by decide +kernel
theorem dX5_without_10 : decode cX5_without 10 = .ok (.invokestatic 194, 3) := by decide +kernel
theorem dX5_without_13 : decode cX5_without 13 = .ok (.ifCond .eq 7, 3) := by decide +kernel
theorem dX5_without_16 : decode cX5_without 16 = .ok (.iconst 0, 1) := by decide +kernel
theorem dX5_without_17 : decode cX5_without 17 = .ok (.goto 4, 3) := by decide +kernel
theorem dX5_without_20 : decode cX5_without 20 = .ok (.iconst 1, 1) := by decide +kernel
theorem dX5_without_21 : decode cX5_without 21 = .ok (.putfield 56, 3) := by decide +kernel
theorem dX5_without_24 : decode cX5_without 24 = .ok (.aload_n 0, 1) := by decide +kernel
theorem dX5_without_25 : decode cX5_without 25 = .ok (.getfield 56, 3) := by decide +kernel
theorem dX5_without_28 : decode cX5_without 28 = .ok (.ifCond .le 5, 3) := by decide +kernel
theorem dX5_without_31 : decode cX5_without 31 = .ok (.lconst 0, 1) := by decide +kernel
theorem dX5_without_32 : decode cX5_without 32 = .ok (.lreturn, 1) := by decide +kernel
theorem dX5_without_33 : decode cX5_without 33 = .ok (.aload_n 0, 1) := by decide +kernel
theorem dX5_without_34 : decode cX5_without 34 = .ok (.iload_n 1, 1) := by decide +kernel
theorem dX5_without_35 : decode cX5_without 35 = .ok (.iload_n 2, 1) := by decide +kernel
theorem dX5_without_36 : decode cX5_without 36 = .ok (.iconst 1, 1) := by decide +kernel
theorem dX5_without_37 : decode cX5_without 37 = .ok (.invokevirtual 184, 3) := by decide +kernel
theorem dX5_without_40 : decode cX5_without 40 = .ok (.istore_n 3, 1) := by decide +kernel
theorem dX5_without_41 : decode cX5_without 41 = .ok (.iload_n 3, 1) := by decide +kernel
theorem dX5_without_42 : decode cX5_without 42 = .ok (.iload_n 2, 1) := by decide +kernel
theorem dX5_without_43 : decode cX5_without 43 = .ok (.if_icmp .gt 9, 3) := by decide +kernel
theorem dX5_without_46 : decode cX5_without 46 = .ok (.ldc2_w 217, 3) := by decide +kernel
theorem dX5_without_49 : decode cX5_without 49 = .ok (.goto 23, 3) := by decide +kernel
theorem dX5_without_52 : decode cX5_without 52 = .ok (.iload_n 2, 1) := by decide +kernel
theorem dX5_without_53 : decode cX5_without 53 = .ok (.aload_n 0, 1) := by decide +kernel
theorem dX5_without_54 : decode cX5_without 54 = .ok (.getfield 16, 3) := by decide +kernel
theorem dX5_without_57 : decode cX5_without 57 = .ok (.iload_n 1, 1) := by decide +kernel
theorem dX5_without_58 : decode cX5_without 58 = .ok (.iaload, 1) := by decide +kernel
theorem dX5_without_59 : decode cX5_without 59 = .ok (.if_icmp .ge 7, 3) := by decide +kernel
theorem dX5_without_62 : decode cX5_without 62 = .ok (.lconst 0, 1) := by decide +kernel
theorem dX5_without_63 : decode cX5_without 63 = .ok (.goto 9, 3) := by decide +kernel
theorem dX5_without_66 : decode cX5_without 66 = .ok (.aload_n 0, 1) := by decide +kernel
theorem dX5_without_67 : decode cX5_without 67 = .ok (.getfield 53, 3) := by decide +kernel
theorem dX5_without_70 : decode cX5_without 70 = .ok (.iload_n 2, 1) := by decide +kernel
theorem dX5_without_71 : decode cX5_without 71 = .ok (.laload, 1) := by decide +kernel
theorem dX5_without_72 : decode cX5_without 72 = .ok (.lreturn, 1) := by decide +kernel
set_option maxRecDepth 20000 in
theorem ggX5_post_X5_reckon : GoodIn wsX5_post wsX5_reckon := goodIn_r _ [11, 12, 13, 14, 15, 10, 16, 4, 17, 18, 19, 20, 21, 22, 23, 24, 25, 26, 27, 28, 29, 30, 31, 32, 33, 34, 35, 36, 5, 37, 38, 39, 40, 41, 42, 43, 44, 45, 46, 47, 48, 49, 50, 51, 52, 53, 54, 55, 56, 57, 58, 59, 60, 61, 62, 63, 64, 65, 66, 67, 68, 69, 70, 71, 72, 73, 74, 75, 76, 77, 78, 79, 80, 81, 82, 83, 84, 85, 86, 87, 88, 89, 90, 91, 92, 93, 94, 95, 96, 97, 98, 99, 100, 101, 102, 103, 104, 105, 106, 107, 112, 113, 114, 115, 116, 117, 118, 119, 120, 121, 122, 123, 124, 125, 126, 127, 128, 129, 130, 131, 132, 133, 134, 135, 136, 137, 138, 139, 140, 141, 142, 143, 144, 145, 146, 147, 148] (by decide +kernel) (by decide +kernel)
set_option maxRecDepth 20000 in
theorem gX5_post_X5_reckon : GoodIn wsX5_post (wsV RX5 205 RX5 yX5_reckon wsX5_reckon) := goodIn_app (goodIn_of _ (by decide +kernel)) ggX5_post_X5_reckon
set_option maxRecDepth 20000 in
theorem ggX5_post_X5_totalOf : GoodIn wsX5_post wsX5_totalOf := goodIn_r _ [111, 1, 6, 112, 113, 114, 115, 116, 117, 118, 119, 120, 121, 122, 123, 124, 125, 126, 127, 128, 129, 130, 131, 132, 133, 134, 135, 136, 137, 138, 139, 140, 141, 142, 143, 144, 145, 146, 147, 148] (by decide +kernel) (by decide +kernel)
set_option maxRecDepth 20000 in
theorem gX5_post_X5_totalOf : GoodIn wsX5_post (wsV RX5 222 RX5 yX5_totalOf wsX5_totalOf) := goodIn_app (goodIn_of _ (by decide +kernel)) ggX5_post_X5_totalOf
theorem dX5_post_0 : decode cX5_post 0 = .ok (.aload_n 0, 1) := by decide +kernel
theorem dX5_post_1 : decode cX5_post 1 = .ok (.aload_n 0, 1) := by decide +kernel
theorem dX5_post_2 : decode cX5_post 2 = .ok (.getfield 219, 3) := by decide +kernel
theorem dX5_post_5 : decode cX5_post 5 = .ok (.bipush 36, 2) := by decide +kernel
theorem dX5_post_7 : decode cX5_post 7 = .ok (.if_icmp .ne 7, 3) := by decide +kernel
theorem dX5_post_10 : decode cX5_post 10 = .ok (.iconst 1, 1) := by decide +kernel
theorem dX5_post_11 : decode cX5_post 11 = .ok (.goto 4, 3) := by decide +kernel
theorem dX5_post_14 : decode cX5_post 14 = .ok (.iconst 0, 1) := by decide +kernel
theorem dX5_post_15 : decode cX5_post 15 = .ok (.putfield 56, 3) := by decide +kernel
theorem dX5_post_18 : decode cX5_post 18 = .ok (.aload_n 0, 1) := by decide +kernel
theorem dX5_post_19 : decode cX5_post 19 = .ok (.getfield 56, 3) := by decide +kernel
theorem dX5_post_22 : decode cX5_post 22 = .ok (.ifCond .le 5, 3) := by decide +kernel
theorem dX5_post_25 : decode cX5_post 25 = .ok (.lconst 0, 1) := by decide +kernel
theorem dX5_post_26 : decode cX5_post 26 = .ok (.lreturn, 1) := by decide +kernel
theorem dX5_post_27 : decode cX5_post 27 = .ok (.lconst 0, 1) := by decide +kernel
theorem dX5_post_28 : decode cX5_post 28 = .ok (.lstore_n 1, 1) := by decide +kernel
theorem dX5_post_29 : decode cX5_post 29 = .ok (.iconst 0, 1) := by decide +kernel
theorem dX5_post_30 : decode cX5_post 30 = .ok (.istore_n 3, 1) := by decide +kernel
theorem dX5_post_31 : decode cX5_post 31 = .ok (.iload_n 3, 1) := by decide +kernel
theorem dX5_post_32 : decode cX5_post 32 = .ok (.aload_n 0, 1) := by decide +kernel
theorem dX5_post_33 : decode cX5_post 33 = .ok (.getfield 62, 3) := by decide +kernel
theorem dX5_post_36 : decode cX5_post 36 = .ok (.if_icmp .ge 68, 3) := by decide +kernel
theorem dX5_post_39 : decode cX5_post 39 = .ok (.lconst 0, 1) := by decide +kernel
theorem dX5_post_40 : decode cX5_post 40 = .ok (.lstore 4, 2) := by decide +kernel
theorem dX5_post_42 : decode cX5_post 42 = .ok (.aload_n 0, 1) := by decide +kernel
theorem dX5_post_43 : decode cX5_post 43 = .ok (.getfield 16, 3) := by decide +kernel
theorem dX5_post_46 : decode cX5_post 46 = .ok (.iload_n 3, 1) := by decide +kernel
theorem dX5_post_47 : decode cX5_post 47 = .ok (.iaload, 1) := by decide +kernel
theorem dX5_post_48 : decode cX5_post 48 = .ok (.aload_n 0, 1) := by decide +kernel
theorem dX5_post_49 : decode cX5_post 49 = .ok (.getfield 219, 3) := by decide +kernel
theorem dX5_post_52 : decode cX5_post 52 = .ok (.if_icmp .gt 25, 3) := by decide +kernel
theorem dX5_post_55 : decode cX5_post 55 = .ok (.aload_n 0, 1) := by decide +kernel
theorem dX5_post_56 : decode cX5_post 56 = .ok (.iload_n 3, 1) := by decide +kernel
theorem dX5_post_57 : decode cX5_post 57 = .ok (.aload_n 0, 1) := by decide +kernel
theorem dX5_post_58 : decode cX5_post 58 = .ok (.getfield 219, 3) := by decide +kernel
theorem dX5_post_61 : decode cX5_post 61 = .ok (.invokevirtual 205, 3) := by decide +kernel
theorem dX5_post_64 : decode cX5_post 64 = .ok (.pop, 1) := by decide +kernel
theorem dX5_post_65 : decode cX5_post 65 = .ok (.aload_n 0, 1) := by decide +kernel
theorem dX5_post_66 : decode cX5_post 66 = .ok (.getfield 163, 3) := by decide +kernel
theorem dX5_post_69 : decode cX5_post 69 = .ok (.aload_n 0, 1) := by decide +kernel
theorem dX5_post_70 : decode cX5_post 70 = .ok (.iload_n 3, 1) := by decide +kernel
theorem dX5_post_71 : decode cX5_post 71 = .ok (.invokevirtual 222, 3) := by decide +kernel
theorem dX5_post_74 : decode cX5_post 74 = .ok (.lsub, 1) := by decide +kernel
theorem dX5_post_75 : decode cX5_post 75 = .ok (.lstore 4, 2) := by decide +kernel
theorem dX5_post_77 : decode cX5_post 77 = .ok (.aload_n 0, 1) := by decide +kernel
theorem dX5_post_78 : decode cX5_post 78 = .ok (.getfield 32, 3) := by decide +kernel
theorem dX5_post_81 : decode cX5_post 81 = .ok (.bipush 36, 2) := by decide +kernel
theorem dX5_post_83 : decode cX5_post 83 = .ok (.iload_n 3, 1) := by decide +kernel
theorem dX5_post_84 : decode cX5_post 84 = .ok (.imul, 1) := by decide +kernel
theorem dX5_post_85 : decode cX5_post 85 = .ok (.aload_n 0, 1) := by decide +kernel
theorem dX5_post_86 : decode cX5_post 86 = .ok (.getfield 219, 3) := by decide +kernel
theorem dX5_post_89 : decode cX5_post 89 = .ok (.iadd, 1) := by decide +kernel
theorem dX5_post_90 : decode cX5_post 90 = .ok (.lload 4, 2) := by decide +kernel
theorem dX5_post_92 : decode cX5_post 92 = .ok (.lastore, 1) := by decide +kernel
theorem dX5_post_93 : decode cX5_post 93 = .ok (.lload_n 1, 1) := by decide +kernel
theorem dX5_post_94 : decode cX5_post 94 = .ok (.lload 4, 2) := by decide +kernel
theorem dX5_post_96 : decode cX5_post 96 = .ok (.ladd, 1) := by decide +kernel
theorem dX5_post_97 : decode cX5_post 97 = .ok (.lstore_n 1, 1) := by decide +kernel
theorem dX5_post_98 : decode cX5_post 98 = .ok (.iinc 3 1, 3) := by decide +kernel
theorem dX5_post_101 : decode cX5_post 101 = .ok (.goto (-70), 3) := by decide +kernel
theorem dX5_post_104 : decode cX5_post 104 = .ok (.aload_n 0, 1) := by decide +kernel
theorem dX5_post_105 : decode cX5_post 105 = .ok (.aload_n 0, 1) := by decide +kernel
theorem dX5_post_106 : decode cX5_post 106 = .ok (.getfield 219, 3) := by decide +kernel
theorem dX5_post_109 : decode cX5_post 109 = .ok (.iconst 1, 1) := by decide +kernel
theorem dX5_post_110 : decode cX5_post 110 = .ok (.iadd, 1) := by decide +kernel
theorem dX5_post_111 : decode cX5_post 111 = .ok (.putfield 219, 3) := by decide +kernel
theorem dX5_post_114 : decode cX5_post 114 = .ok (.lload_n 1, 1) := by decide +kernel
theorem dX5_post_115 : decode cX5_post 115 = .ok (.lreturn, 1) := by decide +kernel
theorem dX5_totalOf_0 : decode cX5_totalOf 0 = .ok (.lconst 0, 1) := by decide +kernel
theorem dX5_totalOf_1 : decode cX5_totalOf 1 = .ok (.lstore_n 2, 1) := by decide +kernel
theorem dX5_totalOf_2 : decode cX5_totalOf 2 = .ok (.iconst 0, 1) := by decide +kernel
theorem dX5_totalOf_3 : decode cX5_totalOf 3 = .ok (.istore 4, 2) := by decide +kernel
theorem dX5_totalOf_5 : decode cX5_totalOf 5 = .ok (.iload 4, 2) := by decide +kernel
theorem dX5_totalOf_7 : decode cX5_totalOf 7 = .ok (.aload_n 0, 1) := by decide +kernel
theorem dX5_totalOf_8 : decode cX5_totalOf 8 = .ok (.getfield 219, 3) := by decide +kernel
theorem dX5_totalOf_11 : decode cX5_totalOf 11 = .ok (.if_icmp .ge 24, 3) := by decide +kernel
theorem dX5_totalOf_14 : decode cX5_totalOf 14 = .ok (.lload_n 2, 1) := by decide +kernel
theorem dX5_totalOf_15 : decode cX5_totalOf 15 = .ok (.aload_n 0, 1) := by decide +kernel
theorem dX5_totalOf_16 : decode cX5_totalOf 16 = .ok (.getfield 32, 3) := by decide +kernel
theorem dX5_totalOf_19 : decode cX5_totalOf 19 = .ok (.bipush 36, 2) := by decide +kernel
theorem dX5_totalOf_21 : decode cX5_totalOf 21 = .ok (.iload_n 1, 1) := by decide +kernel
theorem dX5_totalOf_22 : decode cX5_totalOf 22 = .ok (.imul, 1) := by decide +kernel
theorem dX5_totalOf_23 : decode cX5_totalOf 23 = .ok (.iload 4, 2) := by decide +kernel
theorem dX5_totalOf_25 : decode cX5_totalOf 25 = .ok (.iadd, 1) := by decide +kernel
theorem dX5_totalOf_26 : decode cX5_totalOf 26 = .ok (.laload, 1) := by decide +kernel
theorem dX5_totalOf_27 : decode cX5_totalOf 27 = .ok (.ladd, 1) := by decide +kernel
theorem dX5_totalOf_28 : decode cX5_totalOf 28 = .ok (.lstore_n 2, 1) := by decide +kernel
theorem dX5_totalOf_29 : decode cX5_totalOf 29 = .ok (.iinc 4 1, 3) := by decide +kernel
theorem dX5_totalOf_32 : decode cX5_totalOf 32 = .ok (.goto (-27), 3) := by decide +kernel
theorem dX5_totalOf_35 : decode cX5_totalOf 35 = .ok (.lload_n 2, 1) := by decide +kernel
theorem dX5_totalOf_36 : decode cX5_totalOf 36 = .ok (.lreturn, 1) := by decide +kernel
theorem dX5_months_0 : decode cX5_months 0 = .ok (.aload_n 0, 1) := by decide +kernel
theorem dX5_months_1 : decode cX5_months 1 = .ok (.iconst 0, 1) := by decide +kernel
theorem dX5_months_2 : decode cX5_months 2 = .ok (.putfield 56, 3) := by decide +kernel
theorem dX5_months_5 : decode cX5_months 5 = .ok (.aload_n 0, 1) := by decide +kernel
theorem dX5_months_6 : decode cX5_months 6 = .ok (.getfield 219, 3) := by decide +kernel
theorem dX5_months_9 : decode cX5_months 9 = .ok (.ireturn, 1) := by decide +kernel
set_option maxRecDepth 20000 in
theorem ggX5_posted_X5_isPart : GoodIn wsX5_posted wsX5_isPart := goodIn_r _ [7, 8, 12, 13, 14, 15, 16, 17, 18, 19, 20, 21, 22, 23, 24, 25, 26, 27, 28, 29, 30, 31, 32, 33, 34, 35, 36, 37, 38, 39, 40, 41, 42, 43, 44, 45, 46, 47, 48] (by decide +kernel) (by decide +kernel)
set_option maxRecDepth 20000 in
theorem gX5_posted_X5_isPart : GoodIn wsX5_posted (wsV RX5 202 RX5 yX5_isPart wsX5_isPart) := goodIn_app (goodIn_of _ (by decide +kernel)) ggX5_posted_X5_isPart
set_option maxRecDepth 20000 in
theorem ggX5_posted_X5_isMonth : GoodIn wsX5_posted wsX5_isMonth := goodIn_r _ [11] (by decide +kernel) (by decide +kernel)
set_option maxRecDepth 20000 in
theorem gX5_posted_X5_isMonth : GoodIn wsX5_posted (va_wsS RX5 194 yX5_isMonth wsX5_isMonth) := goodIn_app (goodIn_of _ (by decide +kernel)) ggX5_posted_X5_isMonth
theorem dX5_posted_0 : decode cX5_posted 0 = .ok (.aload_n 0, 1) := by decide +kernel
theorem dX5_posted_1 : decode cX5_posted 1 = .ok (.aload_n 0, 1) := by decide +kernel
theorem dX5_posted_2 : decode cX5_posted 2 = .ok (.iload_n 1, 1) := by decide +kernel
theorem dX5_posted_3 : decode cX5_posted 3 = .ok (.invokevirtual 202, 3) := by decide +kernel
theorem dX5_posted_6 : decode cX5_posted 6 = .ok (.ifCond .eq 14, 3) := by decide +kernel
theorem dX5_posted_9 : decode cX5_posted 9 = .ok (.iload_n 2, 1) := by decide +kernel
theorem dX5_posted_10 : decode cX5_posted 10 = .ok (.invokestatic 194, 3) := by decide +kernel
theorem dX5_posted_13 : decode cX5_posted 13 = .ok (.ifCond .eq 7, 3) := by decide +kernel
theorem dX5_posted_16 : decode cX5_posted 16 = .ok (.iconst 0, 1) := by decide +kernel
theorem dX5_posted_17 : decode cX5_posted 17 = .ok (.goto 4, 3) := by decide +kernel
theorem dX5_posted_20 : decode cX5_posted 20 = .ok (.iconst 1, 1) := by decide +kernel
theorem dX5_posted_21 : decode cX5_posted 21 = .ok (.putfield 56, 3) := by decide +kernel
theorem dX5_posted_24 : decode cX5_posted 24 = .ok (.aload_n 0, 1) := by decide +kernel
theorem dX5_posted_25 : decode cX5_posted 25 = .ok (.getfield 56, 3) := by decide +kernel
theorem dX5_posted_28 : decode cX5_posted 28 = .ok (.ifCond .le 7, 3) := by decide +kernel
theorem dX5_posted_31 : decode cX5_posted 31 = .ok (.lconst 0, 1) := by decide +kernel
theorem dX5_posted_32 : decode cX5_posted 32 = .ok (.goto 14, 3) := by decide +kernel
theorem dX5_posted_35 : decode cX5_posted 35 = .ok (.aload_n 0, 1) := by decide +kernel
theorem dX5_posted_36 : decode cX5_posted 36 = .ok (.getfield 32, 3) := by decide +kernel
theorem dX5_posted_39 : decode cX5_posted 39 = .ok (.bipush 36, 2) := by decide +kernel
theorem dX5_posted_41 : decode cX5_posted 41 = .ok (.iload_n 1, 1) := by decide +kernel
theorem dX5_posted_42 : decode cX5_posted 42 = .ok (.imul, 1) := by decide +kernel
theorem dX5_posted_43 : decode cX5_posted 43 = .ok (.iload_n 2, 1) := by decide +kernel
theorem dX5_posted_44 : decode cX5_posted 44 = .ok (.iadd, 1) := by decide +kernel
theorem dX5_posted_45 : decode cX5_posted 45 = .ok (.laload, 1) := by decide +kernel
theorem dX5_posted_46 : decode cX5_posted 46 = .ok (.lreturn, 1) := by decide +kernel
set_option maxRecDepth 20000 in
theorem ggX5_total_X5_isPart : GoodIn wsX5_total wsX5_isPart := goodIn_r _ [6, 7, 14, 15, 16, 17, 18, 19, 20, 21, 22, 23, 24, 25, 26, 27, 28, 29, 30, 31, 32, 33, 34, 35, 36, 37, 38, 39, 40, 41, 42, 43, 44, 45, 46, 47, 48, 49, 50] (by decide +kernel) (by decide +kernel)
set_option maxRecDepth 20000 in
theorem gX5_total_X5_isPart : GoodIn wsX5_total (wsV RX5 202 RX5 yX5_isPart wsX5_isPart) := goodIn_app (goodIn_of _ (by decide +kernel)) ggX5_total_X5_isPart
set_option maxRecDepth 20000 in
theorem ggX5_total_X5_totalOf : GoodIn wsX5_total wsX5_totalOf := goodIn_r _ [11, 12, 13, 14, 15, 16, 17, 18, 19, 20, 21, 22, 23, 24, 25, 26, 27, 28, 29, 30, 31, 32, 33, 34, 35, 36, 37, 38, 39, 40, 41, 42, 43, 44, 45, 46, 47, 48, 49, 50] (by decide +kernel) (by decide +kernel)
set_option maxRecDepth 20000 in
theorem gX5_total_X5_totalOf : GoodIn wsX5_total (wsV RX5 222 RX5 yX5_totalOf wsX5_totalOf) := goodIn_app (goodIn_of _ (by decide +kernel)) ggX5_total_X5_totalOf
theorem dX5_total_0 : decode cX5_total 0 = .ok (.aload_n 0, 1) := by decide +kernel
theorem dX5_total_1 : decode cX5_total 1 = .ok (.aload_n 0, 1) := by decide +kernel
theorem dX5_total_2 : decode cX5_total 2 = .ok (.iload_n 1, 1) := by decide +kernel
theorem dX5_total_3 : decode cX5_total 3 = .ok (.invokevirtual 202, 3) := by decide +kernel
theorem dX5_total_6 : decode cX5_total 6 = .ok (.ifCond .eq 7, 3) := by decide +kernel
theorem dX5_total_9 : decode cX5_total 9 = .ok (.iconst 0, 1) := by decide +kernel
theorem dX5_total_10 : decode cX5_total 10 = .ok (.goto 4, 3) := by decide +kernel
theorem dX5_total_13 : decode cX5_total 13 = .ok (.iconst 1, 1) := by decide +kernel
theorem dX5_total_14 : decode cX5_total 14 = .ok (.putfield 56, 3) := by decide +kernel
theorem dX5_total_17 : decode cX5_total 17 = .ok (.aload_n 0, 1) := by decide +kernel
theorem dX5_total_18 : decode cX5_total 18 = .ok (.getfield 56, 3) := by decide +kernel
theorem dX5_total_21 : decode cX5_total 21 = .ok (.ifCond .le 7, 3) := by decide +kernel
theorem dX5_total_24 : decode cX5_total 24 = .ok (.lconst 0, 1) := by decide +kernel
theorem dX5_total_25 : decode cX5_total 25 = .ok (.goto 8, 3) := by decide +kernel
theorem dX5_total_28 : decode cX5_total 28 = .ok (.aload_n 0, 1) := by decide +kernel
theorem dX5_total_29 : decode cX5_total 29 = .ok (.iload_n 1, 1) := by decide +kernel
theorem dX5_total_30 : decode cX5_total 30 = .ok (.invokevirtual 222, 3) := by decide +kernel
theorem dX5_total_33 : decode cX5_total 33 = .ok (.lreturn, 1) := by decide +kernel
theorem dX5_parts_0 : decode cX5_parts 0 = .ok (.aload_n 0, 1) := by decide +kernel
theorem dX5_parts_1 : decode cX5_parts 1 = .ok (.iconst 0, 1) := by decide +kernel
theorem dX5_parts_2 : decode cX5_parts 2 = .ok (.putfield 56, 3) := by decide +kernel
theorem dX5_parts_5 : decode cX5_parts 5 = .ok (.aload_n 0, 1) := by decide +kernel
theorem dX5_parts_6 : decode cX5_parts 6 = .ok (.getfield 62, 3) := by decide +kernel
theorem dX5_parts_9 : decode cX5_parts 9 = .ok (.ireturn, 1) := by decide +kernel
theorem dJ9_max_f86c9_0 : decode cJ9_max_f86c9 0 = .ok (.lload_n 0, 1) := by decide +kernel
theorem dJ9_max_f86c9_1 : decode cJ9_max_f86c9 1 = .ok (.lload_n 2, 1) := by decide +kernel
theorem dJ9_max_f86c9_2 : decode cJ9_max_f86c9 2 = .ok (.lcmp, 1) := by decide +kernel
theorem dJ9_max_f86c9_3 : decode cJ9_max_f86c9 3 = .ok (.ifCond .lt 7, 3) := by decide +kernel
theorem dJ9_max_f86c9_6 : decode cJ9_max_f86c9 6 = .ok (.lload_n 0, 1) := by decide +kernel
theorem dJ9_max_f86c9_7 : decode cJ9_max_f86c9 7 = .ok (.goto 4, 3) := by decide +kernel
theorem dJ9_max_f86c9_10 : decode cJ9_max_f86c9 10 = .ok (.lload_n 2, 1) := by decide +kernel
theorem dJ9_max_f86c9_11 : decode cJ9_max_f86c9 11 = .ok (.lreturn, 1) := by decide +kernel
theorem dJ9_min_f86c9_0 : decode cJ9_min_f86c9 0 = .ok (.lload_n 0, 1) := by decide +kernel
theorem dJ9_min_f86c9_1 : decode cJ9_min_f86c9 1 = .ok (.lload_n 2, 1) := by decide +kernel
theorem dJ9_min_f86c9_2 : decode cJ9_min_f86c9 2 = .ok (.lcmp, 1) := by decide +kernel
theorem dJ9_min_f86c9_3 : decode cJ9_min_f86c9 3 = .ok (.ifCond .gt 7, 3) := by decide +kernel
theorem dJ9_min_f86c9_6 : decode cJ9_min_f86c9 6 = .ok (.lload_n 0, 1) := by decide +kernel
theorem dJ9_min_f86c9_7 : decode cJ9_min_f86c9 7 = .ok (.goto 4, 3) := by decide +kernel
theorem dJ9_min_f86c9_10 : decode cJ9_min_f86c9 10 = .ok (.lload_n 2, 1) := by decide +kernel
theorem dJ9_min_f86c9_11 : decode cJ9_min_f86c9 11 = .ok (.lreturn, 1) := by decide +kernel
