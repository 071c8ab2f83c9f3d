set_option maxRecDepth 20000 in
theorem ggX0_init_X0_forget : GoodIn wsX0_init wsX0_forget := goodIn_r _ [16, 17, 18, 10, 11, 19, 20, 21, 22, 23, 24, 25, 26] (by decide +kernel) (by decide +kernel)
set_option maxRecDepth 20000 in
theorem gX0_init_X0_forget : GoodIn wsX0_init (wsV RX0 31 RX0 yX0_forget wsX0_forget) := goodIn_app (goodIn_of _ (by decide +kernel)) ggX0_init_X0_forget
theorem dX0_init_0 : decode cX0_init 0 = .ok (.aload_n 0, 1) := by decide +kernel
theorem dX0_init_1 : decode cX0_init 1 = .ok (.invokespecial 3, 3) := by decide +kernel
theorem dX0_init_4 : decode cX0_init 4 = .ok (.aload_n 0, 1) := by decide +kernel
theorem dX0_init_5 : decode cX0_init 5 = .ok (.bipush 100, 2) := by decide +kernel
theorem dX0_init_7 : decode cX0_init 7 = .ok (.newarray .int, 2) := by decide +kernel
theorem dX0_init_9 : decode cX0_init 9 = .ok (.putfield 9, 3) := by decide +kernel
theorem dX0_init_12 : decode cX0_init 12 = .ok (.aload_n 0, 1) := by decide +kernel
theorem dX0_init_13 : decode cX0_init 13 = .ok (.bipush 100, 2) := by decide +kernel
theorem dX0_init_15 : decode cX0_init 15 = .ok (.newarray .int, 2) := by decide +kernel
theorem dX0_init_17 : decode cX0_init 17 = .ok (.putfield 15, 3) := by decide +kernel
theorem dX0_init_20 : decode cX0_init 20 = .ok (.aload_n 0, 1) := by decide +kernel
theorem dX0_init_21 : decode cX0_init 21 = .ok (.bipush 100, 2) := by decide +kernel
theorem dX0_init_23 : decode cX0_init 23 = .ok (.newarray .int, 2) := by decide +kernel
theorem dX0_init_25 : decode cX0_init 25 = .ok (.putfield 18, 3) := by decide +kernel
theorem dX0_init_28 : decode cX0_init 28 = .ok (.aload_n 0, 1) := by decide +kernel
theorem dX0_init_29 : decode cX0_init 29 = .ok (.bipush 100, 2) := by decide +kernel
theorem dX0_init_31 : decode cX0_init 31 = .ok (.newarray .boolean, 2) := by decide +kernel
theorem dX0_init_33 : decode cX0_init 33 = .ok (.putfield 21, 3) := by decide +kernel
theorem dX0_init_36 : decode cX0_init 36 = .ok (.aload_n 0, 1) := by decide +kernel
theorem dX0_init_37 : decode cX0_init 37 = .ok (.bipush 64, 2) := by decide +kernel
theorem dX0_init_39 : decode cX0_init 39 = .ok (.newarray .int, 2) := by decide +kernel
theorem dX0_init_41 : decode cX0_init 41 = .ok (.putfield 25, 3) := by decide +kernel
theorem dX0_init_44 : decode cX0_init 44 = .ok (.aload_n 0, 1) := by decide +kernel
theorem dX0_init_45 : decode cX0_init 45 = .ok (.bipush 64, 2) := by decide +kernel
theorem dX0_init_47 : decode cX0_init 47 = .ok (.newarray .int, 2) := by decide +kernel
theorem dX0_init_49 : decode cX0_init 49 = .ok (.putfield 28, 3) := by decide +kernel
theorem dX0_init_52 : decode cX0_init 52 = .ok (.aload_n 0, 1) := by decide +kernel
theorem dX0_init_53 : decode cX0_init 53 = .ok (.invokevirtual 31, 3) := by decide +kernel
theorem dX0_init_56 : decode cX0_init 56 = .ok (.return_, 1) := by decide +kernel
theorem dX0_forget_0 : decode cX0_forget 0 = .ok (.aload_n 0, 1) := by decide +kernel
theorem dX0_forget_1 : decode cX0_forget 1 = .ok (.iconst 0, 1) := by decide +kernel
theorem dX0_forget_2 : decode cX0_forget 2 = .ok (.putfield 34, 3) := by decide +kernel
theorem dX0_forget_5 : decode cX0_forget 5 = .ok (.aload_n 0, 1) := by decide +kernel
theorem dX0_forget_6 : decode cX0_forget 6 = .ok (.iconst 0, 1) := by decide +kernel
theorem dX0_forget_7 : decode cX0_forget 7 = .ok (.putfield 38, 3) := by decide +kernel
theorem dX0_forget_10 : decode cX0_forget 10 = .ok (.iconst 0, 1) := by decide +kernel
theorem dX0_forget_11 : decode cX0_forget 11 = .ok (.istore_n 1, 1) := by decide +kernel
theorem dX0_forget_12 : decode cX0_forget 12 = .ok (.iload_n 1, 1) := by decide +kernel
theorem dX0_forget_13 : decode cX0_forget 13 = .ok (.bipush 64, 2) := by decide +kernel
theorem dX0_forget_15 : decode cX0_forget 15 = .ok (.if_icmp .ge 23, 3) := by decide +kernel
theorem dX0_forget_18 : decode cX0_forget 18 = .ok (.aload_n 0, 1) := by decide +kernel
theorem dX0_forget_19 : decode cX0_forget 19 = .ok (.getfield 25, 3) := by decide +kernel
theorem dX0_forget_22 : decode cX0_forget 22 = .ok (.iload_n 1, 1) := by decide +kernel
theorem dX0_forget_23 : decode cX0_forget 23 = .ok (.iload_n 1, 1) := by decide +kernel
theorem dX0_forget_24 : decode cX0_forget 24 = .ok (.iastore, 1) := by decide +kernel
theorem dX0_forget_25 : decode cX0_forget 25 = .ok (.aload_n 0, 1) := by decide +kernel
theorem dX0_forget_26 : decode cX0_forget 26 = .ok (.getfield 28, 3) := by decide +kernel
theorem dX0_forget_29 : decode cX0_forget 29 = .ok (.iload_n 1, 1) := by decide +kernel
theorem dX0_forget_30 : decode cX0_forget 30 = .ok (.iconst 0, 1) := by decide +kernel
theorem dX0_forget_31 : decode cX0_forget 31 = .ok (.iastore, 1) := by decide +kernel
theorem dX0_forget_32 : decode cX0_forget 32 = .ok (.iinc 1 1, 3) := by decide +kernel
theorem dX0_forget_35 : decode cX0_forget 35 = .ok (.goto (-23), 3) := by decide +kernel
theorem dX0_forget_38 : decode cX0_forget 38 = .ok (.return_, 1) := by decide +kernel
set_option maxRecDepth 20000 in
theorem ggX0_add_X0_knotOfTime : GoodIn wsX0_add wsX0_knotOfTime := goodIn_r _ [10] (by decide +kernel) (by decide +kernel)
set_option maxRecDepth 20000 in
theorem gX0_add_X0_knotOfTime : GoodIn wsX0_add (va_wsS RX0 41 yX0_knotOfTime wsX0_knotOfTime) := goodIn_app (goodIn_of _ (by decide +kernel)) ggX0_add_X0_knotOfTime
set_option maxRecDepth 20000 in
theorem ggX0_add_X0_fit : GoodIn wsX0_add wsX0_fit := goodIn_r _ [14, 15, 16, 17, 18, 19, 20, 21, 22, 23, 24] (by decide +kernel) (by decide +kernel)
set_option maxRecDepth 20000 in
theorem gX0_add_X0_fit : GoodIn wsX0_add (wsV RX0 45 RX0 yX0_fit wsX0_fit) := goodIn_app (goodIn_of _ (by decide +kernel)) ggX0_add_X0_fit
theorem dX0_add_0 : decode cX0_add 0 = .ok (.aload_n 0, 1) := by decide +kernel
theorem dX0_add_1 : decode cX0_add 1 = .ok (.iload_n 1, 1) := by decide +kernel
theorem dX0_add_2 : decode cX0_add 2 = .ok (.invokestatic 41, 3) := by decide +kernel
theorem dX0_add_5 : decode cX0_add 5 = .ok (.iload_n 2, 1) := by decide +kernel
theorem dX0_add_6 : decode cX0_add 6 = .ok (.iload_n 3, 1) := by decide +kernel
theorem dX0_add_7 : decode cX0_add 7 = .ok (.invokevirtual 45, 3) := by decide +kernel
theorem dX0_add_10 : decode cX0_add 10 = .ok (.istore 4, 2) := by decide +kernel
theorem dX0_add_12 : decode cX0_add 12 = .ok (.aload_n 0, 1) := by decide +kernel
theorem dX0_add_13 : decode cX0_add 13 = .ok (.getfield 9, 3) := by decide +kernel
theorem dX0_add_16 : decode cX0_add 16 = .ok (.aload_n 0, 1) := by decide +kernel
theorem dX0_add_17 : decode cX0_add 17 = .ok (.getfield 34, 3) := by decide +kernel
theorem dX0_add_20 : decode cX0_add 20 = .ok (.iload_n 1, 1) := by decide +kernel
theorem dX0_add_21 : decode cX0_add 21 = .ok (.iastore, 1) := by decide +kernel
theorem dX0_add_22 : decode cX0_add 22 = .ok (.aload_n 0, 1) := by decide +kernel
theorem dX0_add_23 : decode cX0_add 23 = .ok (.getfield 15, 3) := by decide +kernel
theorem dX0_add_26 : decode cX0_add 26 = .ok (.aload_n 0, 1) := by decide +kernel
theorem dX0_add_27 : decode cX0_add 27 = .ok (.getfield 34, 3) := by decide +kernel
theorem dX0_add_30 : decode cX0_add 30 = .ok (.iload_n 2, 1) := by decide +kernel
theorem dX0_add_31 : decode cX0_add 31 = .ok (.iastore, 1) := by decide +kernel
theorem dX0_add_32 : decode cX0_add 32 = .ok (.aload_n 0, 1) := by decide +kernel
theorem dX0_add_33 : decode cX0_add 33 = .ok (.getfield 18, 3) := by decide +kernel
theorem dX0_add_36 : decode cX0_add 36 = .ok (.aload_n 0, 1) := by decide +kernel
theorem dX0_add_37 : decode cX0_add 37 = .ok (.getfield 34, 3) := by decide +kernel
theorem dX0_add_40 : decode cX0_add 40 = .ok (.iload_n 3, 1) := by decide +kernel
theorem dX0_add_41 : decode cX0_add 41 = .ok (.iastore, 1) := by decide +kernel
theorem dX0_add_42 : decode cX0_add 42 = .ok (.aload_n 0, 1) := by decide +kernel
theorem dX0_add_43 : decode cX0_add 43 = .ok (.getfield 21, 3) := by decide +kernel
theorem dX0_add_46 : decode cX0_add 46 = .ok (.aload_n 0, 1) := by decide +kernel
theorem dX0_add_47 : decode cX0_add 47 = .ok (.getfield 34, 3) := by decide +kernel
theorem dX0_add_50 : decode cX0_add 50 = .ok (.iload 4, 2) := by decide +kernel
theorem dX0_add_52 : decode cX0_add 52 = .ok (.bastore, 1) := by decide +kernel
theorem dX0_add_53 : decode cX0_add 53 = .ok (.aload_n 0, 1) := by decide +kernel
theorem dX0_add_54 : decode cX0_add 54 = .ok (.dup, 1) := by decide +kernel
theorem dX0_add_55 : decode cX0_add 55 = .ok (.getfield 34, 3) := by decide +kernel
theorem dX0_add_58 : decode cX0_add 58 = .ok (.iconst 1, 1) := by decide +kernel
theorem dX0_add_59 : decode cX0_add 59 = .ok (.iadd, 1) := by decide +kernel
theorem dX0_add_60 : decode cX0_add 60 = .ok (.putfield 34, 3) := by decide +kernel
theorem dX0_add_63 : decode cX0_add 63 = .ok (.iload 4, 2) := by decide +kernel
theorem dX0_add_65 : decode cX0_add 65 = .ok (.ifCond .eq 13, 3) := by decide +kernel
theorem dX0_add_68 : decode cX0_add 68 = .ok (.aload_n 0, 1) := by decide +kernel
theorem dX0_add_69 : decode cX0_add 69 = .ok (.dup, 1) := by decide +kernel
theorem dX0_add_70 : decode cX0_add 70 = .ok (.getfield 38, 3) := by decide +kernel
theorem dX0_add_73 : decode cX0_add 73 = .ok (.iconst 1, 1) := by decide +kernel
theorem dX0_add_74 : decode cX0_add 74 = .ok (.iadd, 1) := by decide +kernel
theorem dX0_add_75 : decode cX0_add 75 = .ok (.putfield 38, 3) := by decide +kernel
theorem dX0_add_78 : decode cX0_add 78 = .ok (.iload 4, 2) := by decide +kernel
theorem dX0_add_80 : decode cX0_add 80 = .ok (.ireturn, 1) := by decide +kernel
theorem dX0_fit_0 : decode cX0_fit 0 = .ok (.aload_n 0, 1) := by decide +kernel
theorem dX0_fit_1 : decode cX0_fit 1 = .ok (.getfield 25, 3) := by decide +kernel
theorem dX0_fit_4 : decode cX0_fit 4 = .ok (.iload_n 1, 1) := by decide +kernel
theorem dX0_fit_5 : decode cX0_fit 5 = .ok (.iaload, 1) := by decide +kernel
theorem dX0_fit_6 : decode cX0_fit 6 = .ok (.aload_n 0, 1) := by decide +kernel
theorem dX0_fit_7 : decode cX0_fit 7 = .ok (.getfield 25, 3) := by decide +kernel
theorem dX0_fit_10 : decode cX0_fit 10 = .ok (.iload_n 2, 1) := by decide +kernel
theorem dX0_fit_11 : decode cX0_fit 11 = .ok (.iaload, 1) := by decide +kernel
theorem dX0_fit_12 : decode cX0_fit 12 = .ok (.if_icmp .ne 26, 3) := by decide +kernel
theorem dX0_fit_15 : decode cX0_fit 15 = .ok (.aload_n 0, 1) := by decide +kernel
theorem dX0_fit_16 : decode cX0_fit 16 = .ok (.getfield 28, 3) := by decide +kernel
theorem dX0_fit_19 : decode cX0_fit 19 = .ok (.iload_n 1, 1) := by decide +kernel
theorem dX0_fit_20 : decode cX0_fit 20 = .ok (.iaload, 1) := by decide +kernel
theorem dX0_fit_21 : decode cX0_fit 21 = .ok (.aload_n 0, 1) := by decide +kernel
theorem dX0_fit_22 : decode cX0_fit 22 = .ok (.getfield 28, 3) := by decide +kernel
theorem dX0_fit_25 : decode cX0_fit 25 = .ok (.iload_n 2, 1) := by decide +kernel
theorem dX0_fit_26 : decode cX0_fit 26 = .ok (.iaload, 1) := by decide +kernel
theorem dX0_fit_27 : decode cX0_fit 27 = .ok (.isub, 1) := by decide +kernel
theorem dX0_fit_28 : decode cX0_fit 28 = .ok (.iload_n 3, 1) := by decide +kernel
theorem dX0_fit_29 : decode cX0_fit 29 = .ok (.if_icmp .ne 7, 3) := by decide +kernel
theorem dX0_fit_32 : decode cX0_fit 32 = .ok (.iconst 1, 1) := by decide +kernel
theorem dX0_fit_33 : decode cX0_fit 33 = .ok (.goto 4, 3) := by decide +kernel
theorem dX0_fit_36 : decode cX0_fit 36 = .ok (.iconst 0, 1) := by decide +kernel
theorem dX0_fit_37 : decode cX0_fit 37 = .ok (.ireturn, 1) := by decide +kernel
theorem dX0_fit_38 : decode cX0_fit 38 = .ok (.aload_n 0, 1) := by decide +kernel
theorem dX0_fit_39 : decode cX0_fit 39 = .ok (.getfield 28, 3) := by decide +kernel
theorem dX0_fit_42 : decode cX0_fit 42 = .ok (.iload_n 1, 1) := by decide +kernel
theorem dX0_fit_43 : decode cX0_fit 43 = .ok (.iaload, 1) := by decide +kernel
theorem dX0_fit_44 : decode cX0_fit 44 = .ok (.iload_n 3, 1) := by decide +kernel
theorem dX0_fit_45 : decode cX0_fit 45 = .ok (.isub, 1) := by decide +kernel
theorem dX0_fit_46 : decode cX0_fit 46 = .ok (.aload_n 0, 1) := by decide +kernel
theorem dX0_fit_47 : decode cX0_fit 47 = .ok (.getfield 28, 3) := by decide +kernel
theorem dX0_fit_50 : decode cX0_fit 50 = .ok (.iload_n 2, 1) := by decide +kernel
theorem dX0_fit_51 : decode cX0_fit 51 = .ok (.iaload, 1) := by decide +kernel
theorem dX0_fit_52 : decode cX0_fit 52 = .ok (.isub, 1) := by decide +kernel
theorem dX0_fit_53 : decode cX0_fit 53 = .ok (.istore 4, 2) := by decide +kernel
theorem dX0_fit_55 : decode cX0_fit 55 = .ok (.aload_n 0, 1) := by decide +kernel
theorem dX0_fit_56 : decode cX0_fit 56 = .ok (.getfield 25, 3) := by decide +kernel
theorem dX0_fit_59 : decode cX0_fit 59 = .ok (.iload_n 2, 1) := by decide +kernel
theorem dX0_fit_60 : decode cX0_fit 60 = .ok (.iaload, 1) := by decide +kernel
theorem dX0_fit_61 : decode cX0_fit 61 = .ok (.istore 5, 2) := by decide +kernel
theorem dX0_fit_63 : decode cX0_fit 63 = .ok (.aload_n 0, 1) := by decide +kernel
theorem dX0_fit_64 : decode cX0_fit 64 = .ok (.getfield 25, 3) := by decide +kernel
theorem dX0_fit_67 : decode cX0_fit 67 = .ok (.iload_n 1, 1) := by decide +kernel
theorem dX0_fit_68 : decode cX0_fit 68 = .ok (.iaload, 1) := by decide +kernel
theorem dX0_fit_69 : decode cX0_fit 69 = .ok (.istore 6, 2) := by decide +kernel
theorem dX0_fit_71 : decode cX0_fit 71 = .ok (.iconst 0, 1) := by decide +kernel
theorem dX0_fit_72 : decode cX0_fit 72 = .ok (.istore 7, 2) := by decide +kernel
theorem dX0_fit_74 : decode cX0_fit 74 = .ok (.iload 7, 2) := by decide +kernel
theorem dX0_fit_76 : decode cX0_fit 76 = .ok (.bipush 64, 2) := by decide +kernel
theorem dX0_fit_78 : decode cX0_fit 78 = .ok (.if_icmp .ge 42, 3) := by decide +kernel
theorem dX0_fit_81 : decode cX0_fit 81 = .ok (.aload_n 0, 1) := by decide +kernel
theorem dX0_fit_82 : decode cX0_fit 82 = .ok (.getfield 25, 3) := by decide +kernel
theorem dX0_fit_85 : decode cX0_fit 85 = .ok (.iload 7, 2) := by decide +kernel
theorem dX0_fit_87 : decode cX0_fit 87 = .ok (.iaload, 1) := by decide +kernel
theorem dX0_fit_88 : decode cX0_fit 88 = .ok (.iload 5, 2) := by decide +kernel
theorem dX0_fit_90 : decode cX0_fit 90 = .ok (.if_icmp .ne 24, 3) := by decide +kernel
theorem dX0_fit_93 : decode cX0_fit 93 = .ok (.aload_n 0, 1) := by decide +kernel
theorem dX0_fit_94 : decode cX0_fit 94 = .ok (.getfield 25, 3) := by decide +kernel
theorem dX0_fit_97 : decode cX0_fit 97 = .ok (.iload 7, 2) := by decide +kernel
theorem dX0_fit_99 : decode cX0_fit 99 = .ok (.iload 6, 2) := by decide +kernel
theorem dX0_fit_101 : decode cX0_fit 101 = .ok (.iastore, 1) := by decide +kernel
theorem dX0_fit_102 : decode cX0_fit 102 = .ok (.aload_n 0, 1) := by decide +kernel
theorem dX0_fit_103 : decode cX0_fit 103 = .ok (.getfield 28, 3) := by decide +kernel
theorem dX0_fit_106 : decode cX0_fit 106 = .ok (.iload 7, 2) := by decide +kernel
theorem dX0_fit_108 : decode cX0_fit 108 = .ok (.dup2, 1) := by decide +kernel
theorem dX0_fit_109 : decode cX0_fit 109 = .ok (.iaload, 1) := by decide +kernel
theorem dX0_fit_110 : decode cX0_fit 110 = .ok (.iload 4, 2) := by decide +kernel
theorem dX0_fit_112 : decode cX0_fit 112 = .ok (.iadd, 1) := by decide +kernel
theorem dX0_fit_113 : decode cX0_fit 113 = .ok (.iastore, 1) := by decide +kernel
theorem dX0_fit_114 : decode cX0_fit 114 = .ok (.iinc 7 1, 3) := by decide +kernel
theorem dX0_fit_117 : decode cX0_fit 117 = .ok (.goto (-43), 3) := by decide +kernel
theorem dX0_fit_120 : decode cX0_fit 120 = .ok (.iconst 1, 1) := by decide +kernel
theorem dX0_fit_121 : decode cX0_fit 121 = .ok (.ireturn, 1) := by decide +kernel
theorem dX0_knotOfTime_0 : decode cX0_knotOfTime 0 = .ok (.bipush 24, 2) := by decide +kernel
theorem dX0_knotOfTime_2 : decode cX0_knotOfTime 2 = .ok (.iload_n 0, 1) := by decide +kernel
theorem dX0_knotOfTime_3 : decode cX0_knotOfTime 3 = .ok (.iadd, 1) := by decide +kernel
theorem dX0_knotOfTime_4 : decode cX0_knotOfTime 4 = .ok (.ireturn, 1) := by decide +kernel
theorem dX0_count_0 : decode cX0_count 0 = .ok (.aload_n 0, 1) := by decide +kernel
theorem dX0_count_1 : decode cX0_count 1 = .ok (.getfield 34, 3) := by decide +kernel
theorem dX0_count_4 : decode cX0_count 4 = .ok (.ireturn, 1) := by decide +kernel
theorem dX0_fittingCount_0 : decode cX0_fittingCount 0 = .ok (.aload_n 0, 1) := by decide +kernel
theorem dX0_fittingCount_1 : decode cX0_fittingCount 1 = .ok (.getfield 38, 3) := by decide +kernel
theorem dX0_fittingCount_4 : decode cX0_fittingCount 4 = .ok (.ireturn, 1) := by decide +kernel
theorem dX0_timeOf_0 : decode cX0_timeOf 0 = .ok (.aload_n 0, 1) := by decide +kernel
theorem dX0_timeOf_1 : decode cX0_timeOf 1 = .ok (.getfield 9, 3) := by decide +kernel
theorem dX0_timeOf_4 : decode cX0_timeOf 4 = .ok (.iload_n 1, 1) := by decide +kernel
theorem dX0_timeOf_5 : decode cX0_timeOf 5 = .ok (.iaload, 1) := by decide +kernel
theorem dX0_timeOf_6 : decode cX0_timeOf 6 = .ok (.ireturn, 1) := by decide +kernel
theorem dX0_placeOf_0 : decode cX0_placeOf 0 = .ok (.aload_n 0, 1) := by decide +kernel
theorem dX0_placeOf_1 : decode cX0_placeOf 1 = .ok (.getfield 15, 3) := by decide +kernel
theorem dX0_placeOf_4 : decode cX0_placeOf 4 = .ok (.iload_n 1, 1) := by decide +kernel
theorem dX0_placeOf_5 : decode cX0_placeOf 5 = .ok (.iaload, 1) := by decide +kernel
theorem dX0_placeOf_6 : decode cX0_placeOf 6 = .ok (.ireturn, 1) := by decide +kernel
theorem dX0_valueOf_0 : decode cX0_valueOf 0 = .ok (.aload_n 0, 1) := by decide +kernel
theorem dX0_valueOf_1 : decode cX0_valueOf 1 = .ok (.getfield 18, 3) := by decide +kernel
theorem dX0_valueOf_4 : decode cX0_valueOf 4 = .ok (.iload_n 1, 1) := by decide +kernel
theorem dX0_valueOf_5 : decode cX0_valueOf 5 = .ok (.iaload, 1) := by decide +kernel
theorem dX0_valueOf_6 : decode cX0_valueOf 6 = .ok (.ireturn, 1) := by decide +kernel
theorem dX0_isFitting_0 : decode cX0_isFitting 0 = .ok (.aload_n 0, 1) := by decide +kernel
theorem dX0_isFitting_1 : decode cX0_isFitting 1 = .ok (.getfield 21, 3) := by decide +kernel
theorem dX0_isFitting_4 : decode cX0_isFitting 4 = .ok (.iload_n 1, 1) := by decide +kernel
theorem dX0_isFitting_5 : decode cX0_isFitting 5 = .ok (.baload, 1) := by decide +kernel
theorem dX0_isFitting_6 : decode cX0_isFitting 6 = .ok (.ireturn, 1) := by decide +kernel
theorem dX0_hasAcross_0 : decode cX0_hasAcross 0 = .ok (.aload_n 0, 1) := by decide +kernel
theorem dX0_hasAcross_1 : decode cX0_hasAcross 1 = .ok (.getfield 25, 3) := by decide +kernel
theorem dX0_hasAcross_4 : decode cX0_hasAcross 4 = .ok (.iload_n 1, 1) := by decide +kernel
theorem dX0_hasAcross_5 : decode cX0_hasAcross 5 = .ok (.iaload, 1) := by decide +kernel
theorem dX0_hasAcross_6 : decode cX0_hasAcross 6 = .ok (.aload_n 0, 1) := by decide +kernel
theorem dX0_hasAcross_7 : decode cX0_hasAcross 7 = .ok (.getfield 25, 3) := by decide +kernel
theorem dX0_hasAcross_10 : decode cX0_hasAcross 10 = .ok (.iconst 0, 1) := by decide +kernel
theorem dX0_hasAcross_11 : decode cX0_hasAcross 11 = .ok (.iaload, 1) := by decide +kernel
theorem dX0_hasAcross_12 : decode cX0_hasAcross 12 = .ok (.if_icmp .ne 7, 3) := by decide +kernel
theorem dX0_hasAcross_15 : decode cX0_hasAcross 15 = .ok (.iconst 1, 1) := by decide +kernel
theorem dX0_hasAcross_16 : decode cX0_hasAcross 16 = .ok (.goto 4, 3) := by decide +kernel
theorem dX0_hasAcross_19 : decode cX0_hasAcross 19 = .ok (.iconst 0, 1) := by decide +kernel
theorem dX0_hasAcross_20 : decode cX0_hasAcross 20 = .ok (.ireturn, 1) := by decide +kernel
theorem dX0_acrossOf_0 : decode cX0_acrossOf 0 = .ok (.aload_n 0, 1) := by decide +kernel
theorem dX0_acrossOf_1 : decode cX0_acrossOf 1 = .ok (.getfield 28, 3) := by decide +kernel
theorem dX0_acrossOf_4 : decode cX0_acrossOf 4 = .ok (.iconst 0, 1) := by decide +kernel
theorem dX0_acrossOf_5 : decode cX0_acrossOf 5 = .ok (.iaload, 1) := by decide +kernel
theorem dX0_acrossOf_6 : decode cX0_acrossOf 6 = .ok (.aload_n 0, 1) := by decide +kernel
theorem dX0_acrossOf_7 : decode cX0_acrossOf 7 = .ok (.getfield 28, 3) := by decide +kernel
theorem dX0_acrossOf_10 : decode cX0_acrossOf 10 = .ok (.iload_n 1, 1) := by decide +kernel
theorem dX0_acrossOf_11 : decode cX0_acrossOf 11 = .ok (.iaload, 1) := by decide +kernel
theorem dX0_acrossOf_12 : decode cX0_acrossOf 12 = .ok (.isub, 1) := by decide +kernel
theorem dX0_acrossOf_13 : decode cX0_acrossOf 13 = .ok (.ireturn, 1) := by decide +kernel
set_option maxRecDepth 20000 in
theorem ggX0_timesHangTogether_X0_knotOfTime : GoodIn wsX0_timesHangTogether wsX0_knotOfTime := goodIn_r _ [5] (by decide +kernel) (by decide +kernel)
set_option maxRecDepth 20000 in
theorem gX0_timesHangTogether_X0_knotOfTime : GoodIn wsX0_timesHangTogether (va_wsS RX0 41 yX0_knotOfTime wsX0_knotOfTime) := goodIn_app (goodIn_of _ (by decide +kernel)) ggX0_timesHangTogether_X0_knotOfTime
theorem dX0_timesHangTogether_0 : decode cX0_timesHangTogether 0 = .ok (.aload_n 0, 1) := by decide +kernel
theorem dX0_timesHangTogether_1 : decode cX0_timesHangTogether 1 = .ok (.getfield 25, 3) := by decide +kernel
theorem dX0_timesHangTogether_4 : decode cX0_timesHangTogether 4 = .ok (.iload_n 1, 1) := by decide +kernel
theorem dX0_timesHangTogether_5 : decode cX0_timesHangTogether 5 = .ok (.invokestatic 41, 3) := by decide +kernel
theorem dX0_timesHangTogether_8 : decode cX0_timesHangTogether 8 = .ok (.iaload, 1) := by decide +kernel
theorem dX0_timesHangTogether_9 : decode cX0_timesHangTogether 9 = .ok (.aload_n 0, 1) := by decide +kernel
theorem dX0_timesHangTogether_10 : decode cX0_timesHangTogether 10 = .ok (.getfield 25, 3) := by decide +kernel
theorem dX0_timesHangTogether_13 : decode cX0_timesHangTogether 13 = .ok (.iload_n 2, 1) := by decide +kernel
theorem dX0_timesHangTogether_14 : decode cX0_timesHangTogether 14 = .ok (.invokestatic 41, 3) := by decide +kernel
theorem dX0_timesHangTogether_17 : decode cX0_timesHangTogether 17 = .ok (.iaload, 1) := by decide +kernel
theorem dX0_timesHangTogether_18 : decode cX0_timesHangTogether 18 = .ok (.if_icmp .ne 7, 3) := by decide +kernel
theorem dX0_timesHangTogether_21 : decode cX0_timesHangTogether 21 = .ok (.iconst 1, 1) := by decide +kernel
theorem dX0_timesHangTogether_22 : decode cX0_timesHangTogether 22 = .ok (.goto 4, 3) := by decide +kernel
theorem dX0_timesHangTogether_25 : decode cX0_timesHangTogether 25 = .ok (.iconst 0, 1) := by decide +kernel
theorem dX0_timesHangTogether_26 : decode cX0_timesHangTogether 26 = .ok (.ireturn, 1) := by decide +kernel
set_option maxRecDepth 20000 in
theorem ggX0_moreAlong_X0_knotOfTime : GoodIn wsX0_moreAlong wsX0_knotOfTime := goodIn_r _ [5] (by decide +kernel) (by decide +kernel)
set_option maxRecDepth 20000 in
theorem gX0_moreAlong_X0_knotOfTime : GoodIn wsX0_moreAlong (va_wsS RX0 41 yX0_knotOfTime wsX0_knotOfTime) := goodIn_app (goodIn_of _ (by decide +kernel)) ggX0_moreAlong_X0_knotOfTime
theorem dX0_moreAlong_0 : decode cX0_moreAlong 0 = .ok (.aload_n 0, 1) := by decide +kernel
theorem dX0_moreAlong_1 : decode cX0_moreAlong 1 = .ok (.getfield 28, 3) := by decide +kernel
theorem dX0_moreAlong_4 : decode cX0_moreAlong 4 = .ok (.iload_n 1, 1) := by decide +kernel
theorem dX0_moreAlong_5 : decode cX0_moreAlong 5 = .ok (.invokestatic 41, 3) := by decide +kernel
theorem dX0_moreAlong_8 : decode cX0_moreAlong 8 = .ok (.iaload, 1) := by decide +kernel
theorem dX0_moreAlong_9 : decode cX0_moreAlong 9 = .ok (.aload_n 0, 1) := by decide +kernel
theorem dX0_moreAlong_10 : decode cX0_moreAlong 10 = .ok (.getfield 28, 3) := by decide +kernel
theorem dX0_moreAlong_13 : decode cX0_moreAlong 13 = .ok (.iload_n 2, 1) := by decide +kernel
theorem dX0_moreAlong_14 : decode cX0_moreAlong 14 = .ok (.invokestatic 41, 3) := by decide +kernel
theorem dX0_moreAlong_17 : decode cX0_moreAlong 17 = .ok (.iaload, 1) := by decide +kernel
theorem dX0_moreAlong_18 : decode cX0_moreAlong 18 = .ok (.isub, 1) := by decide +kernel
theorem dX0_moreAlong_19 : decode cX0_moreAlong 19 = .ok (.ireturn, 1) := by decide +kernel
set_option maxRecDepth 20000 in
theorem ggX0_countGroups_X0_isFirstOfGroup : GoodIn wsX0_countGroups wsX0_isFirstOfGroup := goodIn_r _ [5, 6, 7, 8, 9, 10, 11, 12, 13, 14] (by decide +kernel) (by decide +kernel)
set_option maxRecDepth 20000 in
theorem gX0_countGroups_X0_isFirstOfGroup : GoodIn wsX0_countGroups (wsV RX0 49 RX0 yX0_isFirstOfGroup wsX0_isFirstOfGroup) := goodIn_app (goodIn_of _ (by decide +kernel)) ggX0_countGroups_X0_isFirstOfGroup
theorem dX0_countGroups_0 : decode cX0_countGroups 0 = .ok (.iconst 0, 1) := by decide +kernel
theorem dX0_countGroups_1 : decode cX0_countGroups 1 = .ok (.istore_n 2, 1) := by decide +kernel
theorem dX0_countGroups_2 : decode cX0_countGroups 2 = .ok (.iconst 0, 1) := by decide +kernel
theorem dX0_countGroups_3 : decode cX0_countGroups 3 = .ok (.istore_n 3, 1) := by decide +kernel
theorem dX0_countGroups_4 : decode cX0_countGroups 4 = .ok (.iload_n 3, 1) := by decide +kernel
theorem dX0_countGroups_5 : decode cX0_countGroups 5 = .ok (.iload_n 1, 1) := by decide +kernel
theorem dX0_countGroups_6 : decode cX0_countGroups 6 = .ok (.if_icmp .ge 20, 3) := by decide +kernel
theorem dX0_countGroups_9 : decode cX0_countGroups 9 = .ok (.aload_n 0, 1) := by decide +kernel
theorem dX0_countGroups_10 : decode cX0_countGroups 10 = .ok (.iload_n 3, 1) := by decide +kernel
theorem dX0_countGroups_11 : decode cX0_countGroups 11 = .ok (.invokevirtual 49, 3) := by decide +kernel
theorem dX0_countGroups_14 : decode cX0_countGroups 14 = .ok (.ifCond .eq 6, 3) := by decide +kernel
theorem dX0_countGroups_17 : decode cX0_countGroups 17 = .ok (.iinc 2 1, 3) := by decide +kernel
theorem dX0_countGroups_20 : decode cX0_countGroups 20 = .ok (.iinc 3 1, 3) := by decide +kernel
theorem dX0_countGroups_23 : decode cX0_countGroups 23 = .ok (.goto (-19), 3) := by decide +kernel
theorem dX0_countGroups_26 : decode cX0_countGroups 26 = .ok (.iload_n 2, 1) := by decide +kernel
theorem dX0_countGroups_27 : decode cX0_countGroups 27 = .ok (.ireturn, 1) := by decide +kernel
theorem dX0_isFirstOfGroup_0 : decode cX0_isFirstOfGroup 0 = .ok (.iconst 0, 1) := by decide +kernel
theorem dX0_isFirstOfGroup_1 : decode cX0_isFirstOfGroup 1 = .ok (.istore_n 2, 1) := by decide +kernel
theorem dX0_isFirstOfGroup_2 : decode cX0_isFirstOfGroup 2 = .ok (.iload_n 2, 1) := by decide +kernel
theorem dX0_isFirstOfGroup_3 : decode cX0_isFirstOfGroup 3 = .ok (.iload_n 1, 1) := by decide +kernel
theorem dX0_isFirstOfGroup_4 : decode cX0_isFirstOfGroup 4 = .ok (.if_icmp .ge 26, 3) := by decide +kernel
theorem dX0_isFirstOfGroup_7 : decode cX0_isFirstOfGroup 7 = .ok (.aload_n 0, 1) := by decide +kernel
theorem dX0_isFirstOfGroup_8 : decode cX0_isFirstOfGroup 8 = .ok (.getfield 25, 3) := by decide +kernel
theorem dX0_isFirstOfGroup_11 : decode cX0_isFirstOfGroup 11 = .ok (.iload_n 2, 1) := by decide +kernel
theorem dX0_isFirstOfGroup_12 : decode cX0_isFirstOfGroup 12 = .ok (.iaload, 1) := by decide +kernel
theorem dX0_isFirstOfGroup_13 : decode cX0_isFirstOfGroup 13 = .ok (.aload_n 0, 1) := by decide +kernel
theorem dX0_isFirstOfGroup_14 : decode cX0_isFirstOfGroup 14 = .ok (.getfield 25, 3) := by decide +kernel
theorem dX0_isFirstOfGroup_17 : decode cX0_isFirstOfGroup 17 = .ok (.iload_n 1, 1) := by decide +kernel
theorem dX0_isFirstOfGroup_18 : decode cX0_isFirstOfGroup 18 = .ok (.iaload, 1) := by decide +kernel
theorem dX0_isFirstOfGroup_19 : decode cX0_isFirstOfGroup 19 = .ok (.if_icmp .ne 5, 3) := by decide +kernel
theorem dX0_isFirstOfGroup_22 : decode cX0_isFirstOfGroup 22 = .ok (.iconst 0, 1) := by decide +kernel
theorem dX0_isFirstOfGroup_23 : decode cX0_isFirstOfGroup 23 = .ok (.ireturn, 1) := by decide +kernel
theorem dX0_isFirstOfGroup_24 : decode cX0_isFirstOfGroup 24 = .ok (.iinc 2 1, 3) := by decide +kernel
theorem dX0_isFirstOfGroup_27 : decode cX0_isFirstOfGroup 27 = .ok (.goto (-25), 3) := by decide +kernel
theorem dX0_isFirstOfGroup_30 : decode cX0_isFirstOfGroup 30 = .ok (.iconst 1, 1) := by decide +kernel
theorem dX0_isFirstOfGroup_31 : decode cX0_isFirstOfGroup 31 = .ok (.ireturn, 1) := by decide +kernel
