theorem dX5_canLie_16 : decode cX5_canLie 16 = .ok (.invokevirtual 85, 3) := by decide +kernel
theorem dX5_canLie_19 : decode cX5_canLie 19 = .ok (.ifCond .eq 20, 3) := by decide +kernel
theorem dX5_canLie_22 : decode cX5_canLie 22 = .ok (.aload_n 0, 1) := by decide +kernel
theorem dX5_canLie_23 : decode cX5_canLie 23 = .ok (.iload_n 1, 1) := by decide +kernel
theorem dX5_canLie_24 : decode cX5_canLie 24 = .ok (.iload_n 2, 1) := by decide +kernel
theorem dX5_canLie_25 : decode cX5_canLie 25 = .ok (.invokevirtual 127, 3) := by decide +kernel
theorem dX5_canLie_28 : decode cX5_canLie 28 = .ok (.ifCond .eq 7, 3) := by decide +kernel
theorem dX5_canLie_31 : decode cX5_canLie 31 = .ok (.iconst 1, 1) := by decide +kernel
theorem dX5_canLie_32 : decode cX5_canLie 32 = .ok (.goto 8, 3) := by decide +kernel
theorem dX5_canLie_35 : decode cX5_canLie 35 = .ok (.iconst 0, 1) := by decide +kernel
theorem dX5_canLie_36 : decode cX5_canLie 36 = .ok (.goto 4, 3) := by decide +kernel
theorem dX5_canLie_39 : decode cX5_canLie 39 = .ok (.iconst (-1), 1) := by decide +kernel
theorem dX5_canLie_40 : decode cX5_canLie 40 = .ok (.ireturn, 1) := by decide +kernel
set_option maxRecDepth 20000 in
theorem ggX5_layCut_X5_lies : GoodIn wsX5_layCut wsX5_lies := goodIn_r _ [11, 6, 2, 12, 13, 14, 15, 10, 16, 17, 18, 19, 20, 21, 22, 23, 24, 25, 26, 27, 28, 29, 30, 31, 32, 33, 34, 35, 36, 37, 38, 39, 40, 41, 42, 43, 44, 45, 46, 47] (by decide +kernel) (by decide +kernel)
set_option maxRecDepth 20000 in
theorem gX5_layCut_X5_lies : GoodIn wsX5_layCut (wsV RX5 127 RX5 yX5_lies wsX5_lies) := goodIn_app (goodIn_of _ (by decide +kernel)) ggX5_layCut_X5_lies
theorem dX5_layCut_0 : decode cX5_layCut 0 = .ok (.aload_n 0, 1) := by decide +kernel
theorem dX5_layCut_1 : decode cX5_layCut 1 = .ok (.getfield 63, 3) := by decide +kernel
theorem dX5_layCut_4 : decode cX5_layCut 4 = .ok (.aload_n 0, 1) := by decide +kernel
theorem dX5_layCut_5 : decode cX5_layCut 5 = .ok (.getfield 7, 3) := by decide +kernel
theorem dX5_layCut_8 : decode cX5_layCut 8 = .ok (.iconst 0, 1) := by decide +kernel
theorem dX5_layCut_9 : decode cX5_layCut 9 = .ok (.iastore, 1) := by decide +kernel
theorem dX5_layCut_10 : decode cX5_layCut 10 = .ok (.aload_n 0, 1) := by decide +kernel
theorem dX5_layCut_11 : decode cX5_layCut 11 = .ok (.getfield 7, 3) := by decide +kernel
theorem dX5_layCut_14 : decode cX5_layCut 14 = .ok (.iconst 1, 1) := by decide +kernel
theorem dX5_layCut_15 : decode cX5_layCut 15 = .ok (.isub, 1) := by decide +kernel
theorem dX5_layCut_16 : decode cX5_layCut 16 = .ok (.istore_n 1, 1) := by decide +kernel
theorem dX5_layCut_17 : decode cX5_layCut 17 = .ok (.iload_n 1, 1) := by decide +kernel
theorem dX5_layCut_18 : decode cX5_layCut 18 = .ok (.ifCond .lt 106, 3) := by decide +kernel
theorem dX5_layCut_21 : decode cX5_layCut 21 = .ok (.aload_n 0, 1) := by decide +kernel
theorem dX5_layCut_22 : decode cX5_layCut 22 = .ok (.getfield 63, 3) := by decide +kernel
theorem dX5_layCut_25 : decode cX5_layCut 25 = .ok (.iload_n 1, 1) := by decide +kernel
theorem dX5_layCut_26 : decode cX5_layCut 26 = .ok (.aload_n 0, 1) := by decide +kernel
theorem dX5_layCut_27 : decode cX5_layCut 27 = .ok (.getfield 63, 3) := by decide +kernel
theorem dX5_layCut_30 : decode cX5_layCut 30 = .ok (.iload_n 1, 1) := by decide +kernel
theorem dX5_layCut_31 : decode cX5_layCut 31 = .ok (.iconst 1, 1) := by decide +kernel
theorem dX5_layCut_32 : decode cX5_layCut 32 = .ok (.iadd, 1) := by decide +kernel
theorem dX5_layCut_33 : decode cX5_layCut 33 = .ok (.iaload, 1) := by decide +kernel
theorem dX5_layCut_34 : decode cX5_layCut 34 = .ok (.iastore, 1) := by decide +kernel
theorem dX5_layCut_35 : decode cX5_layCut 35 = .ok (.aload_n 0, 1) := by decide +kernel
theorem dX5_layCut_36 : decode cX5_layCut 36 = .ok (.getfield 66, 3) := by decide +kernel
theorem dX5_layCut_39 : decode cX5_layCut 39 = .ok (.iload_n 1, 1) := by decide +kernel
theorem dX5_layCut_40 : decode cX5_layCut 40 = .ok (.bipush (-6), 2) := by decide +kernel
theorem dX5_layCut_42 : decode cX5_layCut 42 = .ok (.iastore, 1) := by decide +kernel
theorem dX5_layCut_43 : decode cX5_layCut 43 = .ok (.aload_n 0, 1) := by decide +kernel
theorem dX5_layCut_44 : decode cX5_layCut 44 = .ok (.getfield 82, 3) := by decide +kernel
theorem dX5_layCut_47 : decode cX5_layCut 47 = .ok (.iconst 1, 1) := by decide +kernel
theorem dX5_layCut_48 : decode cX5_layCut 48 = .ok (.isub, 1) := by decide +kernel
theorem dX5_layCut_49 : decode cX5_layCut 49 = .ok (.istore_n 2, 1) := by decide +kernel
theorem dX5_layCut_50 : decode cX5_layCut 50 = .ok (.iload_n 2, 1) := by decide +kernel
theorem dX5_layCut_51 : decode cX5_layCut 51 = .ok (.ifCond .lt 67, 3) := by decide +kernel
theorem dX5_layCut_54 : decode cX5_layCut 54 = .ok (.aload_n 0, 1) := by decide +kernel
theorem dX5_layCut_55 : decode cX5_layCut 55 = .ok (.iload_n 2, 1) := by decide +kernel
theorem dX5_layCut_56 : decode cX5_layCut 56 = .ok (.iload_n 1, 1) := by decide +kernel
theorem dX5_layCut_57 : decode cX5_layCut 57 = .ok (.invokevirtual 127, 3) := by decide +kernel
theorem dX5_layCut_60 : decode cX5_layCut 60 = .ok (.ifCond .eq 26, 3) := by decide +kernel
theorem dX5_layCut_63 : decode cX5_layCut 63 = .ok (.aload_n 0, 1) := by decide +kernel
theorem dX5_layCut_64 : decode cX5_layCut 64 = .ok (.getfield 51, 3) := by decide +kernel
theorem dX5_layCut_67 : decode cX5_layCut 67 = .ok (.iload_n 2, 1) := by decide +kernel
theorem dX5_layCut_68 : decode cX5_layCut 68 = .ok (.iaload, 1) := by decide +kernel
theorem dX5_layCut_69 : decode cX5_layCut 69 = .ok (.aload_n 0, 1) := by decide +kernel
theorem dX5_layCut_70 : decode cX5_layCut 70 = .ok (.getfield 63, 3) := by decide +kernel
theorem dX5_layCut_73 : decode cX5_layCut 73 = .ok (.iload_n 1, 1) := by decide +kernel
theorem dX5_layCut_74 : decode cX5_layCut 74 = .ok (.aload_n 0, 1) := by decide +kernel
theorem dX5_layCut_75 : decode cX5_layCut 75 = .ok (.getfield 48, 3) := by decide +kernel
theorem dX5_layCut_78 : decode cX5_layCut 78 = .ok (.iload_n 2, 1) := by decide +kernel
theorem dX5_layCut_79 : decode cX5_layCut 79 = .ok (.iaload, 1) := by decide +kernel
theorem dX5_layCut_80 : decode cX5_layCut 80 = .ok (.iadd, 1) := by decide +kernel
theorem dX5_layCut_81 : decode cX5_layCut 81 = .ok (.iaload, 1) := by decide +kernel
theorem dX5_layCut_82 : decode cX5_layCut 82 = .ok (.iadd, 1) := by decide +kernel
theorem dX5_layCut_83 : decode cX5_layCut 83 = .ok (.goto 4, 3) := by decide +kernel
theorem dX5_layCut_86 : decode cX5_layCut 86 = .ok (.iconst (-1), 1) := by decide +kernel
theorem dX5_layCut_87 : decode cX5_layCut 87 = .ok (.istore_n 3, 1) := by decide +kernel
theorem dX5_layCut_88 : decode cX5_layCut 88 = .ok (.iload_n 3, 1) := by decide +kernel
theorem dX5_layCut_89 : decode cX5_layCut 89 = .ok (.aload_n 0, 1) := by decide +kernel
theorem dX5_layCut_90 : decode cX5_layCut 90 = .ok (.getfield 63, 3) := by decide +kernel
theorem dX5_layCut_93 : decode cX5_layCut 93 = .ok (.iload_n 1, 1) := by decide +kernel
theorem dX5_layCut_94 : decode cX5_layCut 94 = .ok (.iaload, 1) := by decide +kernel
theorem dX5_layCut_95 : decode cX5_layCut 95 = .ok (.if_icmp .lt 17, 3) := by decide +kernel
theorem dX5_layCut_98 : decode cX5_layCut 98 = .ok (.aload_n 0, 1) := by decide +kernel
theorem dX5_layCut_99 : decode cX5_layCut 99 = .ok (.getfield 63, 3) := by decide +kernel
theorem dX5_layCut_102 : decode cX5_layCut 102 = .ok (.iload_n 1, 1) := by decide +kernel
theorem dX5_layCut_103 : decode cX5_layCut 103 = .ok (.iload_n 3, 1) := by decide +kernel
theorem dX5_layCut_104 : decode cX5_layCut 104 = .ok (.iastore, 1) := by decide +kernel
theorem dX5_layCut_105 : decode cX5_layCut 105 = .ok (.aload_n 0, 1) := by decide +kernel
theorem dX5_layCut_106 : decode cX5_layCut 106 = .ok (.getfield 66, 3) := by decide +kernel
theorem dX5_layCut_109 : decode cX5_layCut 109 = .ok (.iload_n 1, 1) := by decide +kernel
theorem dX5_layCut_110 : decode cX5_layCut 110 = .ok (.iload_n 2, 1) := by decide +kernel
theorem dX5_layCut_111 : decode cX5_layCut 111 = .ok (.iastore, 1) := by decide +kernel
theorem dX5_layCut_112 : decode cX5_layCut 112 = .ok (.iinc 2 (-1), 3) := by decide +kernel
theorem dX5_layCut_115 : decode cX5_layCut 115 = .ok (.goto (-65), 3) := by decide +kernel
theorem dX5_layCut_118 : decode cX5_layCut 118 = .ok (.iinc 1 (-1), 3) := by decide +kernel
theorem dX5_layCut_121 : decode cX5_layCut 121 = .ok (.goto (-104), 3) := by decide +kernel
theorem dX5_layCut_124 : decode cX5_layCut 124 = .ok (.return_, 1) := by decide +kernel
set_option maxRecDepth 20000 in
theorem ggX5_cut_X5_layCut : GoodIn wsX5_cut wsX5_layCut := goodIn_r _ [6, 1, 7, 8, 9, 10, 11, 12, 13, 14, 5, 15, 16, 17, 18, 19, 20, 21, 22, 23, 24, 25, 26, 27, 28, 29, 30, 31, 32, 33, 34, 35, 36, 37, 38, 39, 40, 41, 42, 43, 44, 45, 46, 47, 48, 49, 50, 51] (by decide +kernel) (by decide +kernel)
set_option maxRecDepth 20000 in
theorem gX5_cut_X5_layCut : GoodIn wsX5_cut (wsV RX5 130 RX5 yX5_layCut wsX5_layCut) := goodIn_app (goodIn_of _ (by decide +kernel)) ggX5_cut_X5_layCut
theorem dX5_cut_0 : decode cX5_cut 0 = .ok (.aload_n 0, 1) := by decide +kernel
theorem dX5_cut_1 : decode cX5_cut 1 = .ok (.invokevirtual 130, 3) := by decide +kernel
theorem dX5_cut_4 : decode cX5_cut 4 = .ok (.aload_n 0, 1) := by decide +kernel
theorem dX5_cut_5 : decode cX5_cut 5 = .ok (.getfield 63, 3) := by decide +kernel
theorem dX5_cut_8 : decode cX5_cut 8 = .ok (.iconst 0, 1) := by decide +kernel
theorem dX5_cut_9 : decode cX5_cut 9 = .ok (.iaload, 1) := by decide +kernel
theorem dX5_cut_10 : decode cX5_cut 10 = .ok (.ireturn, 1) := by decide +kernel
set_option maxRecDepth 20000 in
theorem ggX5_cutAt_X5_isPlace : GoodIn wsX5_cutAt wsX5_isPlace := goodIn_r _ [7, 8, 9, 10, 6, 11, 35, 36, 37, 38, 39, 40, 41, 42, 43, 44, 45, 46, 47, 48, 49, 50, 51, 52, 53, 54, 55, 56, 57, 58] (by decide +kernel) (by decide +kernel)
set_option maxRecDepth 20000 in
theorem gX5_cutAt_X5_isPlace : GoodIn wsX5_cutAt (wsV RX5 85 RX5 yX5_isPlace wsX5_isPlace) := goodIn_app (goodIn_of _ (by decide +kernel)) ggX5_cutAt_X5_isPlace
set_option maxRecDepth 20000 in
theorem ggX5_cutAt_X5_layCut : GoodIn wsX5_cutAt wsX5_layCut := goodIn_r _ [15, 16, 8, 1, 17, 18, 2, 19, 20, 21, 6, 22, 23, 24, 25, 26, 27, 28, 29, 30, 31, 32, 33, 34, 35, 36, 37, 38, 39, 40, 41, 42, 43, 44, 45, 46, 47, 48, 49, 50, 51, 52, 53, 54, 55, 56, 57, 58] (by decide +kernel) (by decide +kernel)
set_option maxRecDepth 20000 in
theorem gX5_cutAt_X5_layCut : GoodIn wsX5_cutAt (wsV RX5 130 RX5 yX5_layCut wsX5_layCut) := goodIn_app (goodIn_of _ (by decide +kernel)) ggX5_cutAt_X5_layCut
theorem dX5_cutAt_0 : decode cX5_cutAt 0 = .ok (.aload_n 0, 1) := by decide +kernel
theorem dX5_cutAt_1 : decode cX5_cutAt 1 = .ok (.iload_n 1, 1) := by decide +kernel
theorem dX5_cutAt_2 : decode cX5_cutAt 2 = .ok (.invokevirtual 85, 3) := by decide +kernel
theorem dX5_cutAt_5 : decode cX5_cutAt 5 = .ok (.ifCond .ne 5, 3) := by decide +kernel
theorem dX5_cutAt_8 : decode cX5_cutAt 8 = .ok (.iconst (-1), 1) := by decide +kernel
theorem dX5_cutAt_9 : decode cX5_cutAt 9 = .ok (.ireturn, 1) := by decide +kernel
theorem dX5_cutAt_10 : decode cX5_cutAt 10 = .ok (.aload_n 0, 1) := by decide +kernel
theorem dX5_cutAt_11 : decode cX5_cutAt 11 = .ok (.invokevirtual 130, 3) := by decide +kernel
theorem dX5_cutAt_14 : decode cX5_cutAt 14 = .ok (.iconst 0, 1) := by decide +kernel
theorem dX5_cutAt_15 : decode cX5_cutAt 15 = .ok (.istore_n 2, 1) := by decide +kernel
theorem dX5_cutAt_16 : decode cX5_cutAt 16 = .ok (.iload_n 2, 1) := by decide +kernel
theorem dX5_cutAt_17 : decode cX5_cutAt 17 = .ok (.iload_n 1, 1) := by decide +kernel
theorem dX5_cutAt_18 : decode cX5_cutAt 18 = .ok (.if_icmp .ge 33, 3) := by decide +kernel
theorem dX5_cutAt_21 : decode cX5_cutAt 21 = .ok (.iload_n 2, 1) := by decide +kernel
theorem dX5_cutAt_22 : decode cX5_cutAt 22 = .ok (.aload_n 0, 1) := by decide +kernel
theorem dX5_cutAt_23 : decode cX5_cutAt 23 = .ok (.getfield 66, 3) := by decide +kernel
theorem dX5_cutAt_26 : decode cX5_cutAt 26 = .ok (.iload_n 2, 1) := by decide +kernel
theorem dX5_cutAt_27 : decode cX5_cutAt 27 = .ok (.iaload, 1) := by decide +kernel
theorem dX5_cutAt_28 : decode cX5_cutAt 28 = .ok (.ifCond .lt 17, 3) := by decide +kernel
theorem dX5_cutAt_31 : decode cX5_cutAt 31 = .ok (.aload_n 0, 1) := by decide +kernel
theorem dX5_cutAt_32 : decode cX5_cutAt 32 = .ok (.getfield 48, 3) := by decide +kernel
theorem dX5_cutAt_35 : decode cX5_cutAt 35 = .ok (.aload_n 0, 1) := by decide +kernel
theorem dX5_cutAt_36 : decode cX5_cutAt 36 = .ok (.getfield 66, 3) := by decide +kernel
theorem dX5_cutAt_39 : decode cX5_cutAt 39 = .ok (.iload_n 2, 1) := by decide +kernel
theorem dX5_cutAt_40 : decode cX5_cutAt 40 = .ok (.iaload, 1) := by decide +kernel
theorem dX5_cutAt_41 : decode cX5_cutAt 41 = .ok (.iaload, 1) := by decide +kernel
theorem dX5_cutAt_42 : decode cX5_cutAt 42 = .ok (.goto 4, 3) := by decide +kernel
theorem dX5_cutAt_45 : decode cX5_cutAt 45 = .ok (.iconst 1, 1) := by decide +kernel
theorem dX5_cutAt_46 : decode cX5_cutAt 46 = .ok (.iadd, 1) := by decide +kernel
theorem dX5_cutAt_47 : decode cX5_cutAt 47 = .ok (.istore_n 2, 1) := by decide +kernel
theorem dX5_cutAt_48 : decode cX5_cutAt 48 = .ok (.goto (-32), 3) := by decide +kernel
theorem dX5_cutAt_51 : decode cX5_cutAt 51 = .ok (.iload_n 2, 1) := by decide +kernel
theorem dX5_cutAt_52 : decode cX5_cutAt 52 = .ok (.iload_n 1, 1) := by decide +kernel
theorem dX5_cutAt_53 : decode cX5_cutAt 53 = .ok (.if_icmp .ne 12, 3) := by decide +kernel
theorem dX5_cutAt_56 : decode cX5_cutAt 56 = .ok (.aload_n 0, 1) := by decide +kernel
theorem dX5_cutAt_57 : decode cX5_cutAt 57 = .ok (.getfield 66, 3) := by decide +kernel
theorem dX5_cutAt_60 : decode cX5_cutAt 60 = .ok (.iload_n 2, 1) := by decide +kernel
theorem dX5_cutAt_61 : decode cX5_cutAt 61 = .ok (.iaload, 1) := by decide +kernel
theorem dX5_cutAt_62 : decode cX5_cutAt 62 = .ok (.goto 5, 3) := by decide +kernel
theorem dX5_cutAt_65 : decode cX5_cutAt 65 = .ok (.bipush (-6), 2) := by decide +kernel
theorem dX5_cutAt_67 : decode cX5_cutAt 67 = .ok (.ireturn, 1) := by decide +kernel
theorem dX5_grade_0 : decode cX5_grade 0 = .ok (.aload_n 0, 1) := by decide +kernel
theorem dX5_grade_1 : decode cX5_grade 1 = .ok (.getfield 133, 3) := by decide +kernel
theorem dX5_grade_4 : decode cX5_grade 4 = .ok (.bipush 9, 2) := by decide +kernel
theorem dX5_grade_6 : decode cX5_grade 6 = .ok (.if_icmp .ne 6, 3) := by decide +kernel
theorem dX5_grade_9 : decode cX5_grade 9 = .ok (.bipush (-4), 2) := by decide +kernel
theorem dX5_grade_11 : decode cX5_grade 11 = .ok (.ireturn, 1) := by decide +kernel
theorem dX5_grade_12 : decode cX5_grade 12 = .ok (.iconst 0, 1) := by decide +kernel
theorem dX5_grade_13 : decode cX5_grade 13 = .ok (.istore_n 1, 1) := by decide +kernel
theorem dX5_grade_14 : decode cX5_grade 14 = .ok (.iload_n 1, 1) := by decide +kernel
theorem dX5_grade_15 : decode cX5_grade 15 = .ok (.bipush 9, 2) := by decide +kernel
theorem dX5_grade_17 : decode cX5_grade 17 = .ok (.if_icmp .ge 41, 3) := by decide +kernel
theorem dX5_grade_20 : decode cX5_grade 20 = .ok (.aload_n 0, 1) := by decide +kernel
theorem dX5_grade_21 : decode cX5_grade 21 = .ok (.getfield 57, 3) := by decide +kernel
theorem dX5_grade_24 : decode cX5_grade 24 = .ok (.bipush 9, 2) := by decide +kernel
theorem dX5_grade_26 : decode cX5_grade 26 = .ok (.aload_n 0, 1) := by decide +kernel
theorem dX5_grade_27 : decode cX5_grade 27 = .ok (.getfield 133, 3) := by decide +kernel
theorem dX5_grade_30 : decode cX5_grade 30 = .ok (.imul, 1) := by decide +kernel
theorem dX5_grade_31 : decode cX5_grade 31 = .ok (.iload_n 1, 1) := by decide +kernel
theorem dX5_grade_32 : decode cX5_grade 32 = .ok (.iadd, 1) := by decide +kernel
theorem dX5_grade_33 : decode cX5_grade 33 = .ok (.bipush 100, 2) := by decide +kernel
theorem dX5_grade_35 : decode cX5_grade 35 = .ok (.iastore, 1) := by decide +kernel
theorem dX5_grade_36 : decode cX5_grade 36 = .ok (.aload_n 0, 1) := by decide +kernel
theorem dX5_grade_37 : decode cX5_grade 37 = .ok (.getfield 57, 3) := by decide +kernel
theorem dX5_grade_40 : decode cX5_grade 40 = .ok (.bipush 9, 2) := by decide +kernel
theorem dX5_grade_42 : decode cX5_grade 42 = .ok (.iload_n 1, 1) := by decide +kernel
theorem dX5_grade_43 : decode cX5_grade 43 = .ok (.imul, 1) := by decide +kernel
theorem dX5_grade_44 : decode cX5_grade 44 = .ok (.aload_n 0, 1) := by decide +kernel
theorem dX5_grade_45 : decode cX5_grade 45 = .ok (.getfield 133, 3) := by decide +kernel
theorem dX5_grade_48 : decode cX5_grade 48 = .ok (.iadd, 1) := by decide +kernel
theorem dX5_grade_49 : decode cX5_grade 49 = .ok (.bipush 100, 2) := by decide +kernel
theorem dX5_grade_51 : decode cX5_grade 51 = .ok (.iastore, 1) := by decide +kernel
theorem dX5_grade_52 : decode cX5_grade 52 = .ok (.iinc 1 1, 3) := by decide +kernel
theorem dX5_grade_55 : decode cX5_grade 55 = .ok (.goto (-41), 3) := by decide +kernel
theorem dX5_grade_58 : decode cX5_grade 58 = .ok (.aload_n 0, 1) := by decide +kernel
theorem dX5_grade_59 : decode cX5_grade 59 = .ok (.dup, 1) := by decide +kernel
theorem dX5_grade_60 : decode cX5_grade 60 = .ok (.getfield 133, 3) := by decide +kernel
theorem dX5_grade_63 : decode cX5_grade 63 = .ok (.iconst 1, 1) := by decide +kernel
theorem dX5_grade_64 : decode cX5_grade 64 = .ok (.iadd, 1) := by decide +kernel
theorem dX5_grade_65 : decode cX5_grade 65 = .ok (.putfield 133, 3) := by decide +kernel
theorem dX5_grade_68 : decode cX5_grade 68 = .ok (.aload_n 0, 1) := by decide +kernel
theorem dX5_grade_69 : decode cX5_grade 69 = .ok (.getfield 133, 3) := by decide +kernel
theorem dX5_grade_72 : decode cX5_grade 72 = .ok (.iconst 1, 1) := by decide +kernel
theorem dX5_grade_73 : decode cX5_grade 73 = .ok (.isub, 1) := by decide +kernel
theorem dX5_grade_74 : decode cX5_grade 74 = .ok (.ireturn, 1) := by decide +kernel
set_option maxRecDepth 20000 in
theorem ggX5_isGrade_X5_in : GoodIn wsX5_isGrade wsX5_in := goodIn_r _ [5] (by decide +kernel) (by decide +kernel)
set_option maxRecDepth 20000 in
theorem gX5_isGrade_X5_in : GoodIn wsX5_isGrade (va_wsS RX5 75 yX5_in wsX5_in) := goodIn_app (goodIn_of _ (by decide +kernel)) ggX5_isGrade_X5_in
theorem dX5_isGrade_0 : decode cX5_isGrade 0 = .ok (.iload_n 1, 1) := by decide +kernel
theorem dX5_isGrade_1 : decode cX5_isGrade 1 = .ok (.iconst 0, 1) := by decide +kernel
theorem dX5_isGrade_2 : decode cX5_isGrade 2 = .ok (.aload_n 0, 1) := by decide +kernel
theorem dX5_isGrade_3 : decode cX5_isGrade 3 = .ok (.getfield 133, 3) := by decide +kernel
theorem dX5_isGrade_6 : decode cX5_isGrade 6 = .ok (.iconst 1, 1) := by decide +kernel
theorem dX5_isGrade_7 : decode cX5_isGrade 7 = .ok (.isub, 1) := by decide +kernel
theorem dX5_isGrade_8 : decode cX5_isGrade 8 = .ok (.invokestatic 75, 3) := by decide +kernel
theorem dX5_isGrade_11 : decode cX5_isGrade 11 = .ok (.ireturn, 1) := by decide +kernel
set_option maxRecDepth 20000 in
theorem ggX5_cost_X5_isGrade : GoodIn wsX5_cost wsX5_isGrade := goodIn_r _ [6, 7, 8, 9, 5, 10, 11, 12, 13, 14, 15, 16, 17, 18, 19, 20, 21, 22, 23, 24, 25, 26, 27, 28, 29, 30, 31, 32, 33, 34] (by decide +kernel) (by decide +kernel)
set_option maxRecDepth 20000 in
theorem gX5_cost_X5_isGrade : GoodIn wsX5_cost (wsV RX5 136 RX5 yX5_isGrade wsX5_isGrade) := goodIn_app (goodIn_of _ (by decide +kernel)) ggX5_cost_X5_isGrade
set_option maxRecDepth 20000 in
theorem ggX5_cost_X5_in : GoodIn wsX5_cost wsX5_in := goodIn_r _ [10] (by decide +kernel) (by decide +kernel)
set_option maxRecDepth 20000 in
theorem gX5_cost_X5_in : GoodIn wsX5_cost (va_wsS RX5 75 yX5_in wsX5_in) := goodIn_app (goodIn_of _ (by decide +kernel)) ggX5_cost_X5_in
theorem dX5_cost_0 : decode cX5_cost 0 = .ok (.aload_n 0, 1) := by decide +kernel
theorem dX5_cost_1 : decode cX5_cost 1 = .ok (.iload_n 1, 1) := by decide +kernel
theorem dX5_cost_2 : decode cX5_cost 2 = .ok (.invokevirtual 136, 3) := by decide +kernel
theorem dX5_cost_5 : decode cX5_cost 5 = .ok (.ifCond .eq 11, 3) := by decide +kernel
theorem dX5_cost_8 : decode cX5_cost 8 = .ok (.aload_n 0, 1) := by decide +kernel
theorem dX5_cost_9 : decode cX5_cost 9 = .ok (.iload_n 2, 1) := by decide +kernel
theorem dX5_cost_10 : decode cX5_cost 10 = .ok (.invokevirtual 136, 3) := by decide +kernel
theorem dX5_cost_13 : decode cX5_cost 13 = .ok (.ifCond .ne 5, 3) := by decide +kernel
theorem dX5_cost_16 : decode cX5_cost 16 = .ok (.iconst (-1), 1) := by decide +kernel
theorem dX5_cost_17 : decode cX5_cost 17 = .ok (.ireturn, 1) := by decide +kernel
theorem dX5_cost_18 : decode cX5_cost 18 = .ok (.iload_n 3, 1) := by decide +kernel
theorem dX5_cost_19 : decode cX5_cost 19 = .ok (.iconst 0, 1) := by decide +kernel
theorem dX5_cost_20 : decode cX5_cost 20 = .ok (.sipush 1000, 3) := by decide +kernel
theorem dX5_cost_23 : decode cX5_cost 23 = .ok (.invokestatic 75, 3) := by decide +kernel
theorem dX5_cost_26 : decode cX5_cost 26 = .ok (.ifCond .ne 6, 3) := by decide +kernel
theorem dX5_cost_29 : decode cX5_cost 29 = .ok (.bipush (-2), 2) := by decide +kernel
theorem dX5_cost_31 : decode cX5_cost 31 = .ok (.ireturn, 1) := by decide +kernel
theorem dX5_cost_32 : decode cX5_cost 32 = .ok (.iload_n 1, 1) := by decide +kernel
theorem dX5_cost_33 : decode cX5_cost 33 = .ok (.iload_n 2, 1) := by decide +kernel
theorem dX5_cost_34 : decode cX5_cost 34 = .ok (.if_icmp .ne 6, 3) := by decide +kernel
theorem dX5_cost_37 : decode cX5_cost 37 = .ok (.bipush (-5), 2) := by decide +kernel
theorem dX5_cost_39 : decode cX5_cost 39 = .ok (.ireturn, 1) := by decide +kernel
theorem dX5_cost_40 : decode cX5_cost 40 = .ok (.aload_n 0, 1) := by decide +kernel
theorem dX5_cost_41 : decode cX5_cost 41 = .ok (.getfield 57, 3) := by decide +kernel
theorem dX5_cost_44 : decode cX5_cost 44 = .ok (.bipush 9, 2) := by decide +kernel
theorem dX5_cost_46 : decode cX5_cost 46 = .ok (.iload_n 1, 1) := by decide +kernel
theorem dX5_cost_47 : decode cX5_cost 47 = .ok (.imul, 1) := by decide +kernel
theorem dX5_cost_48 : decode cX5_cost 48 = .ok (.iload_n 2, 1) := by decide +kernel
theorem dX5_cost_49 : decode cX5_cost 49 = .ok (.iadd, 1) := by decide +kernel
theorem dX5_cost_50 : decode cX5_cost 50 = .ok (.iaload, 1) := by decide +kernel
theorem dX5_cost_51 : decode cX5_cost 51 = .ok (.istore 4, 2) := by decide +kernel
theorem dX5_cost_53 : decode cX5_cost 53 = .ok (.aload_n 0, 1) := by decide +kernel
theorem dX5_cost_54 : decode cX5_cost 54 = .ok (.getfield 57, 3) := by decide +kernel
theorem dX5_cost_57 : decode cX5_cost 57 = .ok (.bipush 9, 2) := by decide +kernel
theorem dX5_cost_59 : decode cX5_cost 59 = .ok (.iload_n 1, 1) := by decide +kernel
theorem dX5_cost_60 : decode cX5_cost 60 = .ok (.imul, 1) := by decide +kernel
theorem dX5_cost_61 : decode cX5_cost 61 = .ok (.iload_n 2, 1) := by decide +kernel
theorem dX5_cost_62 : decode cX5_cost 62 = .ok (.iadd, 1) := by decide +kernel
theorem dX5_cost_63 : decode cX5_cost 63 = .ok (.iload_n 3, 1) := by decide +kernel
theorem dX5_cost_64 : decode cX5_cost 64 = .ok (.iastore, 1) := by decide +kernel
theorem dX5_cost_65 : decode cX5_cost 65 = .ok (.iload 4, 2) := by decide +kernel
theorem dX5_cost_67 : decode cX5_cost 67 = .ok (.ireturn, 1) := by decide +kernel
theorem dX5_layRest_0 : decode cX5_layRest 0 = .ok (.iconst 1, 1) := by decide +kernel
theorem dX5_layRest_1 : decode cX5_layRest 1 = .ok (.aload_n 0, 1) := by decide +kernel
theorem dX5_layRest_2 : decode cX5_layRest 2 = .ok (.getfield 133, 3) := by decide +kernel
theorem dX5_layRest_5 : decode cX5_layRest 5 = .ok (.ishl, 1) := by decide +kernel
theorem dX5_layRest_6 : decode cX5_layRest 6 = .ok (.iconst 1, 1) := by decide +kernel
theorem dX5_layRest_7 : decode cX5_layRest 7 = .ok (.isub, 1) := by decide +kernel
theorem dX5_layRest_8 : decode cX5_layRest 8 = .ok (.istore_n 1, 1) := by decide +kernel
theorem dX5_layRest_9 : decode cX5_layRest 9 = .ok (.iload_n 1, 1) := by decide +kernel
theorem dX5_layRest_10 : decode cX5_layRest 10 = .ok (.ifCond .le 140, 3) := by decide +kernel
theorem dX5_layRest_13 : decode cX5_layRest 13 = .ok (.iconst 0, 1) := by decide +kernel
theorem dX5_layRest_14 : decode cX5_layRest 14 = .ok (.istore_n 2, 1) := by decide +kernel
theorem dX5_layRest_15 : decode cX5_layRest 15 = .ok (.iload_n 2, 1) := by decide +kernel
theorem dX5_layRest_16 : decode cX5_layRest 16 = .ok (.aload_n 0, 1) := by decide +kernel
theorem dX5_layRest_17 : decode cX5_layRest 17 = .ok (.getfield 133, 3) := by decide +kernel
theorem dX5_layRest_20 : decode cX5_layRest 20 = .ok (.if_icmp .ge 124, 3) := by decide +kernel
theorem dX5_layRest_23 : decode cX5_layRest 23 = .ok (.iload_n 1, 1) := by decide +kernel
theorem dX5_layRest_24 : decode cX5_layRest 24 = .ok (.iconst 1, 1) := by decide +kernel
theorem dX5_layRest_25 : decode cX5_layRest 25 = .ok (.aload_n 0, 1) := by decide +kernel
theorem dX5_layRest_26 : decode cX5_layRest 26 = .ok (.getfield 133, 3) := by decide +kernel
theorem dX5_layRest_29 : decode cX5_layRest 29 = .ok (.ishl, 1) := by decide +kernel
theorem dX5_layRest_30 : decode cX5_layRest 30 = .ok (.iconst 1, 1) := by decide +kernel
theorem dX5_layRest_31 : decode cX5_layRest 31 = .ok (.isub, 1) := by decide +kernel
theorem dX5_layRest_32 : decode cX5_layRest 32 = .ok (.if_icmp .ne 7, 3) := by decide +kernel
theorem dX5_layRest_35 : decode cX5_layRest 35 = .ok (.iconst 0, 1) := by decide +kernel
theorem dX5_layRest_36 : decode cX5_layRest 36 = .ok (.goto 4, 3) := by decide +kernel
theorem dX5_layRest_39 : decode cX5_layRest 39 = .ok (.iconst (-1), 1) := by decide +kernel
theorem dX5_layRest_40 : decode cX5_layRest 40 = .ok (.istore_n 3, 1) := by decide +kernel
theorem dX5_layRest_41 : decode cX5_layRest 41 = .ok (.iconst 0, 1) := by decide +kernel
theorem dX5_layRest_42 : decode cX5_layRest 42 = .ok (.istore 4, 2) := by decide +kernel
theorem dX5_layRest_44 : decode cX5_layRest 44 = .ok (.iload 4, 2) := by decide +kernel
theorem dX5_layRest_46 : decode cX5_layRest 46 = .ok (.aload_n 0, 1) := by decide +kernel
theorem dX5_layRest_47 : decode cX5_layRest 47 = .ok (.getfield 133, 3) := by decide +kernel
theorem dX5_layRest_50 : decode cX5_layRest 50 = .ok (.if_icmp .ge 76, 3) := by decide +kernel
theorem dX5_layRest_53 : decode cX5_layRest 53 = .ok (.iload_n 1, 1) := by decide +kernel
theorem dX5_layRest_54 : decode cX5_layRest 54 = .ok (.iload 4, 2) := by decide +kernel
theorem dX5_layRest_56 : decode cX5_layRest 56 = .ok (.ishr, 1) := by decide +kernel
theorem dX5_layRest_57 : decode cX5_layRest 57 = .ok (.iconst 1, 1) := by decide +kernel
theorem dX5_layRest_58 : decode cX5_layRest 58 = .ok (.iand, 1) := by decide +kernel
theorem dX5_layRest_59 : decode cX5_layRest 59 = .ok (.ifCond .ne 36, 3) := by decide +kernel
theorem dX5_layRest_62 : decode cX5_layRest 62 = .ok (.aload_n 0, 1) := by decide +kernel
theorem dX5_layRest_63 : decode cX5_layRest 63 = .ok (.getfield 57, 3) := by decide +kernel
theorem dX5_layRest_66 : decode cX5_layRest 66 = .ok (.bipush 9, 2) := by decide +kernel
theorem dX5_layRest_68 : decode cX5_layRest 68 = .ok (.iload_n 2, 1) := by decide +kernel
theorem dX5_layRest_69 : decode cX5_layRest 69 = .ok (.imul, 1) := by decide +kernel
theorem dX5_layRest_70 : decode cX5_layRest 70 = .ok (.iload 4, 2) := by decide +kernel
theorem dX5_layRest_72 : decode cX5_layRest 72 = .ok (.iadd, 1) := by decide +kernel
theorem dX5_layRest_73 : decode cX5_layRest 73 = .ok (.iaload, 1) := by decide +kernel
theorem dX5_layRest_74 : decode cX5_layRest 74 = .ok (.aload_n 0, 1) := by decide +kernel
theorem dX5_layRest_75 : decode cX5_layRest 75 = .ok (.getfield 69, 3) := by decide +kernel
theorem dX5_layRest_78 : decode cX5_layRest 78 = .ok (.bipush 9, 2) := by decide +kernel
theorem dX5_layRest_80 : decode cX5_layRest 80 = .ok (.iload_n 1, 1) := by decide +kernel
theorem dX5_layRest_81 : decode cX5_layRest 81 = .ok (.iconst 1, 1) := by decide +kernel
theorem dX5_layRest_82 : decode cX5_layRest 82 = .ok (.iload 4, 2) := by decide +kernel
theorem dX5_layRest_84 : decode cX5_layRest 84 = .ok (.ishl, 1) := by decide +kernel
theorem dX5_layRest_85 : decode cX5_layRest 85 = .ok (.ior, 1) := by decide +kernel
theorem dX5_layRest_86 : decode cX5_layRest 86 = .ok (.imul, 1) := by decide +kernel
theorem dX5_layRest_87 : decode cX5_layRest 87 = .ok (.iload 4, 2) := by decide +kernel
theorem dX5_layRest_89 : decode cX5_layRest 89 = .ok (.iadd, 1) := by decide +kernel
theorem dX5_layRest_90 : decode cX5_layRest 90 = .ok (.iaload, 1) := by decide +kernel
theorem dX5_layRest_91 : decode cX5_layRest 91 = .ok (.iadd, 1) := by decide +kernel
theorem dX5_layRest_92 : decode cX5_layRest 92 = .ok (.goto 4, 3) := by decide +kernel
theorem dX5_layRest_95 : decode cX5_layRest 95 = .ok (.iconst (-1), 1) := by decide +kernel
theorem dX5_layRest_96 : decode cX5_layRest 96 = .ok (.istore 5, 2) := by decide +kernel
theorem dX5_layRest_98 : decode cX5_layRest 98 = .ok (.iload 5, 2) := by decide +kernel
theorem dX5_layRest_100 : decode cX5_layRest 100 = .ok (.ifCond .lt 18, 3) := by decide +kernel
theorem dX5_layRest_103 : decode cX5_layRest 103 = .ok (.iload_n 3, 1) := by decide +kernel
theorem dX5_layRest_104 : decode cX5_layRest 104 = .ok (.ifCond .lt 9, 3) := by decide +kernel
theorem dX5_layRest_107 : decode cX5_layRest 107 = .ok (.iload 5, 2) := by decide +kernel
theorem dX5_layRest_109 : decode cX5_layRest 109 = .ok (.iload_n 3, 1) := by decide +kernel
theorem dX5_layRest_110 : decode cX5_layRest 110 = .ok (.if_icmp .ge 8, 3) := by decide +kernel
theorem dX5_layRest_113 : decode cX5_layRest 113 = .ok (.iload 5, 2) := by decide +kernel
theorem dX5_layRest_115 : decode cX5_layRest 115 = .ok (.goto 4, 3) := by decide +kernel
theorem dX5_layRest_118 : decode cX5_layRest 118 = .ok (.iload_n 3, 1) := by decide +kernel
theorem dX5_layRest_119 : decode cX5_layRest 119 = .ok (.istore_n 3, 1) := by decide +kernel
theorem dX5_layRest_120 : decode cX5_layRest 120 = .ok (.iinc 4 1, 3) := by decide +kernel
theorem dX5_layRest_123 : decode cX5_layRest 123 = .ok (.goto (-79), 3) := by decide +kernel
theorem dX5_layRest_126 : decode cX5_layRest 126 = .ok (.aload_n 0, 1) := by decide +kernel
theorem dX5_layRest_127 : decode cX5_layRest 127 = .ok (.getfield 69, 3) := by decide +kernel
theorem dX5_layRest_130 : decode cX5_layRest 130 = .ok (.bipush 9, 2) := by decide +kernel
theorem dX5_layRest_132 : decode cX5_layRest 132 = .ok (.iload_n 1, 1) := by decide +kernel
theorem dX5_layRest_133 : decode cX5_layRest 133 = .ok (.imul, 1) := by decide +kernel
theorem dX5_layRest_134 : decode cX5_layRest 134 = .ok (.iload_n 2, 1) := by decide +kernel
theorem dX5_layRest_135 : decode cX5_layRest 135 = .ok (.iadd, 1) := by decide +kernel
theorem dX5_layRest_136 : decode cX5_layRest 136 = .ok (.iload_n 3, 1) := by decide +kernel
theorem dX5_layRest_137 : decode cX5_layRest 137 = .ok (.iastore, 1) := by decide +kernel
theorem dX5_layRest_138 : decode cX5_layRest 138 = .ok (.iinc 2 1, 3) := by decide +kernel
theorem dX5_layRest_141 : decode cX5_layRest 141 = .ok (.goto (-126), 3) := by decide +kernel
theorem dX5_layRest_144 : decode cX5_layRest 144 = .ok (.iinc 1 (-1), 3) := by decide +kernel
theorem dX5_layRest_147 : decode cX5_layRest 147 = .ok (.goto (-138), 3) := by decide +kernel
theorem dX5_layRest_150 : decode cX5_layRest 150 = .ok (.return_, 1) := by decide +kernel
set_option maxRecDepth 20000 in
theorem ggX5_tour_X5_isGrade : GoodIn wsX5_tour wsX5_isGrade := goodIn_r _ [6, 7, 8, 9, 5, 10, 16, 17, 18, 19, 20, 21, 22, 23, 24, 25, 26, 27, 28, 29, 30, 31, 32, 33, 34, 35, 36, 37, 38, 39] (by decide +kernel) (by decide +kernel)
set_option maxRecDepth 20000 in
theorem gX5_tour_X5_isGrade : GoodIn wsX5_tour (wsV RX5 136 RX5 yX5_isGrade wsX5_isGrade) := goodIn_app (goodIn_of _ (by decide +kernel)) ggX5_tour_X5_isGrade
set_option maxRecDepth 20000 in
theorem ggX5_tour_X5_layRest : GoodIn wsX5_tour wsX5_layRest := goodIn_r _ [14, 7, 15, 1, 16, 17, 18, 19, 20, 21, 22, 23, 24, 25, 26, 27, 28, 29, 30, 31, 32, 33, 34, 35, 36, 37, 38, 39] (by decide +kernel) (by decide +kernel)
set_option maxRecDepth 20000 in
theorem gX5_tour_X5_layRest : GoodIn wsX5_tour (wsV RX5 139 RX5 yX5_layRest wsX5_layRest) := goodIn_app (goodIn_of _ (by decide +kernel)) ggX5_tour_X5_layRest
theorem dX5_tour_0 : decode cX5_tour 0 = .ok (.aload_n 0, 1) := by decide +kernel
theorem dX5_tour_1 : decode cX5_tour 1 = .ok (.iload_n 1, 1) := by decide +kernel
theorem dX5_tour_2 : decode cX5_tour 2 = .ok (.invokevirtual 136, 3) := by decide +kernel
theorem dX5_tour_5 : decode cX5_tour 5 = .ok (.ifCond .ne 5, 3) := by decide +kernel
theorem dX5_tour_8 : decode cX5_tour 8 = .ok (.iconst (-1), 1) := by decide +kernel
theorem dX5_tour_9 : decode cX5_tour 9 = .ok (.ireturn, 1) := by decide +kernel
theorem dX5_tour_10 : decode cX5_tour 10 = .ok (.aload_n 0, 1) := by decide +kernel
theorem dX5_tour_11 : decode cX5_tour 11 = .ok (.invokevirtual 139, 3) := by decide +kernel
theorem dX5_tour_14 : decode cX5_tour 14 = .ok (.aload_n 0, 1) := by decide +kernel
theorem dX5_tour_15 : decode cX5_tour 15 = .ok (.getfield 69, 3) := by decide +kernel
theorem dX5_tour_18 : decode cX5_tour 18 = .ok (.bipush 9, 2) := by decide +kernel
theorem dX5_tour_20 : decode cX5_tour 20 = .ok (.iconst 1, 1) := by decide +kernel
theorem dX5_tour_21 : decode cX5_tour 21 = .ok (.iload_n 1, 1) := by decide +kernel
theorem dX5_tour_22 : decode cX5_tour 22 = .ok (.ishl, 1) := by decide +kernel
theorem dX5_tour_23 : decode cX5_tour 23 = .ok (.imul, 1) := by decide +kernel
theorem dX5_tour_24 : decode cX5_tour 24 = .ok (.iload_n 1, 1) := by decide +kernel
theorem dX5_tour_25 : decode cX5_tour 25 = .ok (.iadd, 1) := by decide +kernel
theorem dX5_tour_26 : decode cX5_tour 26 = .ok (.iaload, 1) := by decide +kernel
theorem dX5_tour_27 : decode cX5_tour 27 = .ok (.ireturn, 1) := by decide +kernel
set_option maxRecDepth 20000 in
theorem ggX5_tourAt_X5_isGrade : GoodIn wsX5_tourAt wsX5_isGrade := goodIn_r _ [8, 1, 9, 10, 7, 11, 16, 17, 18, 19, 20, 21, 22, 23, 24, 25, 26, 27, 28, 29, 30, 31, 32, 33, 34, 35, 36, 37, 38, 39] (by decide +kernel) (by decide +kernel)
set_option maxRecDepth 20000 in
theorem gX5_tourAt_X5_isGrade : GoodIn wsX5_tourAt (wsV RX5 136 RX5 yX5_isGrade wsX5_isGrade) := goodIn_app (goodIn_of _ (by decide +kernel)) ggX5_tourAt_X5_isGrade
set_option maxRecDepth 20000 in
theorem ggX5_tourAt_X5_in : GoodIn wsX5_tourAt wsX5_in := goodIn_r _ [11] (by decide +kernel) (by decide +kernel)
set_option maxRecDepth 20000 in
theorem gX5_tourAt_X5_in : GoodIn wsX5_tourAt (va_wsS RX5 75 yX5_in wsX5_in) := goodIn_app (goodIn_of _ (by decide +kernel)) ggX5_tourAt_X5_in
set_option maxRecDepth 20000 in
theorem ggX5_tourAt_X5_layRest : GoodIn wsX5_tourAt wsX5_layRest := goodIn_r _ [15, 1, 2, 3, 16, 17, 18, 19, 20, 21, 22, 23, 24, 25, 26, 27, 28, 29, 30, 31, 32, 33, 34, 35, 36, 37, 38, 39] (by decide +kernel) (by decide +kernel)
set_option maxRecDepth 20000 in
theorem gX5_tourAt_X5_layRest : GoodIn wsX5_tourAt (wsV RX5 139 RX5 yX5_layRest wsX5_layRest) := goodIn_app (goodIn_of _ (by decide +kernel)) ggX5_tourAt_X5_layRest
theorem dX5_tourAt_0 : decode cX5_tourAt 0 = .ok (.aload_n 0, 1) := by decide +kernel
theorem dX5_tourAt_1 : decode cX5_tourAt 1 = .ok (.iload_n 1, 1) := by decide +kernel
theorem dX5_tourAt_2 : decode cX5_tourAt 2 = .ok (.invokevirtual 136, 3) := by decide +kernel
theorem dX5_tourAt_5 : decode cX5_tourAt 5 = .ok (.ifCond .ne 5, 3) := by decide +kernel
theorem dX5_tourAt_8 : decode cX5_tourAt 8 = .ok (.iconst (-1), 1) := by decide +kernel
theorem dX5_tourAt_9 : decode cX5_tourAt 9 = .ok (.ireturn, 1) := by decide +kernel
theorem dX5_tourAt_10 : decode cX5_tourAt 10 = .ok (.iload_n 2, 1) := by decide +kernel
theorem dX5_tourAt_11 : decode cX5_tourAt 11 = .ok (.iconst 0, 1) := by decide +kernel
theorem dX5_tourAt_12 : decode cX5_tourAt 12 = .ok (.aload_n 0, 1) := by decide +kernel
theorem dX5_tourAt_13 : decode cX5_tourAt 13 = .ok (.getfield 133, 3) := by decide +kernel
theorem dX5_tourAt_16 : decode cX5_tourAt 16 = .ok (.iconst 1, 1) := by decide +kernel
theorem dX5_tourAt_17 : decode cX5_tourAt 17 = .ok (.isub, 1) := by decide +kernel
theorem dX5_tourAt_18 : decode cX5_tourAt 18 = .ok (.invokestatic 75, 3) := by decide +kernel
theorem dX5_tourAt_21 : decode cX5_tourAt 21 = .ok (.ifCond .ne 6, 3) := by decide +kernel
theorem dX5_tourAt_24 : decode cX5_tourAt 24 = .ok (.bipush (-6), 2) := by decide +kernel
theorem dX5_tourAt_26 : decode cX5_tourAt 26 = .ok (.ireturn, 1) := by decide +kernel
theorem dX5_tourAt_27 : decode cX5_tourAt 27 = .ok (.aload_n 0, 1) := by decide +kernel
theorem dX5_tourAt_28 : decode cX5_tourAt 28 = .ok (.invokevirtual 139, 3) := by decide +kernel
theorem dX5_tourAt_31 : decode cX5_tourAt 31 = .ok (.iconst 1, 1) := by decide +kernel
theorem dX5_tourAt_32 : decode cX5_tourAt 32 = .ok (.iload_n 1, 1) := by decide +kernel
theorem dX5_tourAt_33 : decode cX5_tourAt 33 = .ok (.ishl, 1) := by decide +kernel
theorem dX5_tourAt_34 : decode cX5_tourAt 34 = .ok (.istore_n 3, 1) := by decide +kernel
theorem dX5_tourAt_35 : decode cX5_tourAt 35 = .ok (.iload_n 1, 1) := by decide +kernel
theorem dX5_tourAt_36 : decode cX5_tourAt 36 = .ok (.istore 4, 2) := by decide +kernel
theorem dX5_tourAt_38 : decode cX5_tourAt 38 = .ok (.iconst 0, 1) := by decide +kernel
theorem dX5_tourAt_39 : decode cX5_tourAt 39 = .ok (.istore 5, 2) := by decide +kernel
theorem dX5_tourAt_41 : decode cX5_tourAt 41 = .ok (.iload 5, 2) := by decide +kernel
theorem dX5_tourAt_43 : decode cX5_tourAt 43 = .ok (.iload_n 2, 1) := by decide +kernel
theorem dX5_tourAt_44 : decode cX5_tourAt 44 = .ok (.if_icmp .ge 85, 3) := by decide +kernel
theorem dX5_tourAt_47 : decode cX5_tourAt 47 = .ok (.iconst 0, 1) := by decide +kernel
theorem dX5_tourAt_48 : decode cX5_tourAt 48 = .ok (.istore 6, 2) := by decide +kernel
theorem dX5_tourAt_50 : decode cX5_tourAt 50 = .ok (.iload_n 3, 1) := by decide +kernel
theorem dX5_tourAt_51 : decode cX5_tourAt 51 = .ok (.iload 6, 2) := by decide +kernel
theorem dX5_tourAt_53 : decode cX5_tourAt 53 = .ok (.ishr, 1) := by decide +kernel
theorem dX5_tourAt_54 : decode cX5_tourAt 54 = .ok (.iconst 1, 1) := by decide +kernel
theorem dX5_tourAt_55 : decode cX5_tourAt 55 = .ok (.iand, 1) := by decide +kernel
theorem dX5_tourAt_56 : decode cX5_tourAt 56 = .ok (.iconst 1, 1) := by decide +kernel
theorem dX5_tourAt_57 : decode cX5_tourAt 57 = .ok (.if_icmp .eq 49, 3) := by decide +kernel
theorem dX5_tourAt_60 : decode cX5_tourAt 60 = .ok (.aload_n 0, 1) := by decide +kernel
theorem dX5_tourAt_61 : decode cX5_tourAt 61 = .ok (.getfield 57, 3) := by decide +kernel
theorem dX5_tourAt_64 : decode cX5_tourAt 64 = .ok (.bipush 9, 2) := by decide +kernel
theorem dX5_tourAt_66 : decode cX5_tourAt 66 = .ok (.iload 4, 2) := by decide +kernel
theorem dX5_tourAt_68 : decode cX5_tourAt 68 = .ok (.imul, 1) := by decide +kernel
theorem dX5_tourAt_69 : decode cX5_tourAt 69 = .ok (.iload 6, 2) := by decide +kernel
theorem dX5_tourAt_71 : decode cX5_tourAt 71 = .ok (.iadd, 1) := by decide +kernel
theorem dX5_tourAt_72 : decode cX5_tourAt 72 = .ok (.iaload, 1) := by decide +kernel
theorem dX5_tourAt_73 : decode cX5_tourAt 73 = .ok (.aload_n 0, 1) := by decide +kernel
theorem dX5_tourAt_74 : decode cX5_tourAt 74 = .ok (.getfield 69, 3) := by decide +kernel
theorem dX5_tourAt_77 : decode cX5_tourAt 77 = .ok (.bipush 9, 2) := by decide +kernel
theorem dX5_tourAt_79 : decode cX5_tourAt 79 = .ok (.iload_n 3, 1) := by decide +kernel
theorem dX5_tourAt_80 : decode cX5_tourAt 80 = .ok (.iconst 1, 1) := by decide +kernel
theorem dX5_tourAt_81 : decode cX5_tourAt 81 = .ok (.iload 6, 2) := by decide +kernel
theorem dX5_tourAt_83 : decode cX5_tourAt 83 = .ok (.ishl, 1) := by decide +kernel
theorem dX5_tourAt_84 : decode cX5_tourAt 84 = .ok (.ior, 1) := by decide +kernel
theorem dX5_tourAt_85 : decode cX5_tourAt 85 = .ok (.imul, 1) := by decide +kernel
theorem dX5_tourAt_86 : decode cX5_tourAt 86 = .ok (.iload 6, 2) := by decide +kernel
theorem dX5_tourAt_88 : decode cX5_tourAt 88 = .ok (.iadd, 1) := by decide +kernel
theorem dX5_tourAt_89 : decode cX5_tourAt 89 = .ok (.iaload, 1) := by decide +kernel
theorem dX5_tourAt_90 : decode cX5_tourAt 90 = .ok (.iadd, 1) := by decide +kernel
theorem dX5_tourAt_91 : decode cX5_tourAt 91 = .ok (.aload_n 0, 1) := by decide +kernel
theorem dX5_tourAt_92 : decode cX5_tourAt 92 = .ok (.getfield 69, 3) := by decide +kernel
theorem dX5_tourAt_95 : decode cX5_tourAt 95 = .ok (.bipush 9, 2) := by decide +kernel
theorem dX5_tourAt_97 : decode cX5_tourAt 97 = .ok (.iload_n 3, 1) := by decide +kernel
theorem dX5_tourAt_98 : decode cX5_tourAt 98 = .ok (.imul, 1) := by decide +kernel
theorem dX5_tourAt_99 : decode cX5_tourAt 99 = .ok (.iload 4, 2) := by decide +kernel
theorem dX5_tourAt_101 : decode cX5_tourAt 101 = .ok (.iadd, 1) := by decide +kernel
theorem dX5_tourAt_102 : decode cX5_tourAt 102 = .ok (.iaload, 1) := by decide +kernel
theorem dX5_tourAt_103 : decode cX5_tourAt 103 = .ok (.if_icmp .eq 9, 3) := by decide +kernel
theorem dX5_tourAt_106 : decode cX5_tourAt 106 = .ok (.iinc 6 1, 3) := by decide +kernel
theorem dX5_tourAt_109 : decode cX5_tourAt 109 = .ok (.goto (-59), 3) := by decide +kernel
theorem dX5_tourAt_112 : decode cX5_tourAt 112 = .ok (.iload_n 3, 1) := by decide +kernel
theorem dX5_tourAt_113 : decode cX5_tourAt 113 = .ok (.iconst 1, 1) := by decide +kernel
theorem dX5_tourAt_114 : decode cX5_tourAt 114 = .ok (.iload 6, 2) := by decide +kernel
theorem dX5_tourAt_116 : decode cX5_tourAt 116 = .ok (.ishl, 1) := by decide +kernel
theorem dX5_tourAt_117 : decode cX5_tourAt 117 = .ok (.ior, 1) := by decide +kernel
theorem dX5_tourAt_118 : decode cX5_tourAt 118 = .ok (.istore_n 3, 1) := by decide +kernel
theorem dX5_tourAt_119 : decode cX5_tourAt 119 = .ok (.iload 6, 2) := by decide +kernel
theorem dX5_tourAt_121 : decode cX5_tourAt 121 = .ok (.istore 4, 2) := by decide +kernel
theorem dX5_tourAt_123 : decode cX5_tourAt 123 = .ok (.iinc 5 1, 3) := by decide +kernel
theorem dX5_tourAt_126 : decode cX5_tourAt 126 = .ok (.goto (-85), 3) := by decide +kernel
theorem dX5_tourAt_129 : decode cX5_tourAt 129 = .ok (.iload 4, 2) := by decide +kernel
theorem dX5_tourAt_131 : decode cX5_tourAt 131 = .ok (.ireturn, 1) := by decide +kernel
theorem dX5_fitting_0 : decode cX5_fitting 0 = .ok (.iconst 0, 1) := by decide +kernel
theorem dX5_fitting_1 : decode cX5_fitting 1 = .ok (.istore_n 1, 1) := by decide +kernel
theorem dX5_fitting_2 : decode cX5_fitting 2 = .ok (.iconst 0, 1) := by decide +kernel
theorem dX5_fitting_3 : decode cX5_fitting 3 = .ok (.istore_n 2, 1) := by decide +kernel
theorem dX5_fitting_4 : decode cX5_fitting 4 = .ok (.iload_n 2, 1) := by decide +kernel
theorem dX5_fitting_5 : decode cX5_fitting 5 = .ok (.aload_n 0, 1) := by decide +kernel
theorem dX5_fitting_6 : decode cX5_fitting 6 = .ok (.getfield 79, 3) := by decide +kernel
theorem dX5_fitting_9 : decode cX5_fitting 9 = .ok (.if_icmp .ge 26, 3) := by decide +kernel
theorem dX5_fitting_12 : decode cX5_fitting 12 = .ok (.iload_n 1, 1) := by decide +kernel
theorem dX5_fitting_13 : decode cX5_fitting 13 = .ok (.aload_n 0, 1) := by decide +kernel
theorem dX5_fitting_14 : decode cX5_fitting 14 = .ok (.getfield 23, 3) := by decide +kernel
theorem dX5_fitting_17 : decode cX5_fitting 17 = .ok (.iload_n 2, 1) := by decide +kernel
theorem dX5_fitting_18 : decode cX5_fitting 18 = .ok (.baload, 1) := by decide +kernel
theorem dX5_fitting_19 : decode cX5_fitting 19 = .ok (.ifCond .eq 7, 3) := by decide +kernel
theorem dX5_fitting_22 : decode cX5_fitting 22 = .ok (.iconst 1, 1) := by decide +kernel
theorem dX5_fitting_23 : decode cX5_fitting 23 = .ok (.goto 4, 3) := by decide +kernel
theorem dX5_fitting_26 : decode cX5_fitting 26 = .ok (.iconst 0, 1) := by decide +kernel
theorem dX5_fitting_27 : decode cX5_fitting 27 = .ok (.iadd, 1) := by decide +kernel
theorem dX5_fitting_28 : decode cX5_fitting 28 = .ok (.istore_n 1, 1) := by decide +kernel
theorem dX5_fitting_29 : decode cX5_fitting 29 = .ok (.iinc 2 1, 3) := by decide +kernel
theorem dX5_fitting_32 : decode cX5_fitting 32 = .ok (.goto (-28), 3) := by decide +kernel
theorem dX5_fitting_35 : decode cX5_fitting 35 = .ok (.iload_n 1, 1) := by decide +kernel
theorem dX5_fitting_36 : decode cX5_fitting 36 = .ok (.ireturn, 1) := by decide +kernel
set_option maxRecDepth 20000 in
theorem ggX5_told_X5_fitting : GoodIn wsX5_told wsX5_fitting := goodIn_r _ [13, 2, 14, 15, 16, 17, 18, 19, 20, 21, 22, 23, 24, 25, 26, 27, 28, 29, 30, 31, 32, 33, 34, 35, 36, 37, 38] (by decide +kernel) (by decide +kernel)
set_option maxRecDepth 20000 in
theorem gX5_told_X5_fitting : GoodIn wsX5_told (wsV RX5 142 RX5 yX5_fitting wsX5_fitting) := goodIn_app (goodIn_of _ (by decide +kernel)) ggX5_told_X5_fitting
theorem dX5_told_0 : decode cX5_told 0 = .ok (.iload_n 1, 1) := by decide +kernel
theorem dX5_told_1 : decode cX5_told 1 = .ok (.tableswitch 96 0 8 #[51, 56, 61, 66, 71, 76, 81, 86, 91], 51) := by decide +kernel
theorem dX5_told_52 : decode cX5_told 52 = .ok (.aload_n 0, 1) := by decide +kernel
theorem dX5_told_53 : decode cX5_told 53 = .ok (.getfield 7, 3) := by decide +kernel
theorem dX5_told_56 : decode cX5_told 56 = .ok (.ireturn, 1) := by decide +kernel
theorem dX5_told_57 : decode cX5_told 57 = .ok (.aload_n 0, 1) := by decide +kernel
theorem dX5_told_58 : decode cX5_told 58 = .ok (.getfield 79, 3) := by decide +kernel
theorem dX5_told_61 : decode cX5_told 61 = .ok (.ireturn, 1) := by decide +kernel
theorem dX5_told_62 : decode cX5_told 62 = .ok (.aload_n 0, 1) := by decide +kernel
theorem dX5_told_63 : decode cX5_told 63 = .ok (.invokevirtual 142, 3) := by decide +kernel
theorem dX5_told_66 : decode cX5_told 66 = .ok (.ireturn, 1) := by decide +kernel
theorem dX5_told_67 : decode cX5_told 67 = .ok (.aload_n 0, 1) := by decide +kernel
theorem dX5_told_68 : decode cX5_told 68 = .ok (.getfield 82, 3) := by decide +kernel
theorem dX5_told_71 : decode cX5_told 71 = .ok (.ireturn, 1) := by decide +kernel
theorem dX5_told_72 : decode cX5_told 72 = .ok (.aload_n 0, 1) := by decide +kernel
theorem dX5_told_73 : decode cX5_told 73 = .ok (.getfield 133, 3) := by decide +kernel
theorem dX5_told_76 : decode cX5_told 76 = .ok (.ireturn, 1) := by decide +kernel
theorem dX5_told_77 : decode cX5_told 77 = .ok (.aload_n 0, 1) := by decide +kernel
theorem dX5_told_78 : decode cX5_told 78 = .ok (.getfield 39, 3) := by decide +kernel
theorem dX5_told_81 : decode cX5_told 81 = .ok (.ireturn, 1) := by decide +kernel
theorem dX5_told_82 : decode cX5_told 82 = .ok (.aload_n 0, 1) := by decide +kernel
theorem dX5_told_83 : decode cX5_told 83 = .ok (.getfield 42, 3) := by decide +kernel
theorem dX5_told_86 : decode cX5_told 86 = .ok (.ireturn, 1) := by decide +kernel
theorem dX5_told_87 : decode cX5_told 87 = .ok (.aload_n 0, 1) := by decide +kernel
theorem dX5_told_88 : decode cX5_told 88 = .ok (.getfield 45, 3) := by decide +kernel
theorem dX5_told_91 : decode cX5_told 91 = .ok (.ireturn, 1) := by decide +kernel
theorem dX5_told_92 : decode cX5_told 92 = .ok (.aload_n 0, 1) := by decide +kernel
theorem dX5_told_93 : decode cX5_told 93 = .ok (.getfield 106, 3) := by decide +kernel
theorem dX5_told_96 : decode cX5_told 96 = .ok (.ireturn, 1) := by decide +kernel
theorem dX5_told_97 : decode cX5_told 97 = .ok (.sipush (-1002), 3) := by decide +kernel
theorem dX5_told_100 : decode cX5_told 100 = .ok (.ireturn, 1) := by decide +kernel
