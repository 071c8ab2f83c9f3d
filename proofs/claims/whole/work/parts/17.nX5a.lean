set_option maxRecDepth 20000 in
theorem ggX5_init_X5_begin : GoodIn wsX5_init wsX5_begin := goodIn_r _ [30, 31, 11, 12, 32, 33, 34, 35, 36, 37, 38, 39, 40, 41, 42, 43, 44, 45, 46, 47, 48, 49, 50, 51, 52, 53, 54, 55] (by decide +kernel) (by decide +kernel)
set_option maxRecDepth 20000 in
theorem gX5_init_X5_begin : GoodIn wsX5_init (wsV RX5 72 RX5 yX5_begin wsX5_begin) := goodIn_app (goodIn_of _ (by decide +kernel)) ggX5_init_X5_begin
theorem dX5_init_0 : decode cX5_init 0 = .ok (.aload_n 0, 1) := by decide +kernel
theorem dX5_init_1 : decode cX5_init 1 = .ok (.invokespecial 1, 3) := by decide +kernel
theorem dX5_init_4 : decode cX5_init 4 = .ok (.aload_n 0, 1) := by decide +kernel
theorem dX5_init_5 : decode cX5_init 5 = .ok (.bipush 8, 2) := by decide +kernel
theorem dX5_init_7 : decode cX5_init 7 = .ok (.putfield 7, 3) := by decide +kernel
theorem dX5_init_10 : decode cX5_init 10 = .ok (.aload_n 0, 1) := by decide +kernel
theorem dX5_init_11 : decode cX5_init 11 = .ok (.bipush 100, 2) := by decide +kernel
theorem dX5_init_13 : decode cX5_init 13 = .ok (.newarray .int, 2) := by decide +kernel
theorem dX5_init_15 : decode cX5_init 15 = .ok (.putfield 13, 3) := by decide +kernel
theorem dX5_init_18 : decode cX5_init 18 = .ok (.aload_n 0, 1) := by decide +kernel
theorem dX5_init_19 : decode cX5_init 19 = .ok (.bipush 100, 2) := by decide +kernel
theorem dX5_init_21 : decode cX5_init 21 = .ok (.newarray .int, 2) := by decide +kernel
theorem dX5_init_23 : decode cX5_init 23 = .ok (.putfield 17, 3) := by decide +kernel
theorem dX5_init_26 : decode cX5_init 26 = .ok (.aload_n 0, 1) := by decide +kernel
theorem dX5_init_27 : decode cX5_init 27 = .ok (.bipush 100, 2) := by decide +kernel
theorem dX5_init_29 : decode cX5_init 29 = .ok (.newarray .int, 2) := by decide +kernel
theorem dX5_init_31 : decode cX5_init 31 = .ok (.putfield 20, 3) := by decide +kernel
theorem dX5_init_34 : decode cX5_init 34 = .ok (.aload_n 0, 1) := by decide +kernel
theorem dX5_init_35 : decode cX5_init 35 = .ok (.bipush 100, 2) := by decide +kernel
theorem dX5_init_37 : decode cX5_init 37 = .ok (.newarray .boolean, 2) := by decide +kernel
theorem dX5_init_39 : decode cX5_init 39 = .ok (.putfield 23, 3) := by decide +kernel
theorem dX5_init_42 : decode cX5_init 42 = .ok (.aload_n 0, 1) := by decide +kernel
theorem dX5_init_43 : decode cX5_init 43 = .ok (.bipush 64, 2) := by decide +kernel
theorem dX5_init_45 : decode cX5_init 45 = .ok (.newarray .int, 2) := by decide +kernel
theorem dX5_init_47 : decode cX5_init 47 = .ok (.putfield 27, 3) := by decide +kernel
theorem dX5_init_50 : decode cX5_init 50 = .ok (.aload_n 0, 1) := by decide +kernel
theorem dX5_init_51 : decode cX5_init 51 = .ok (.bipush 64, 2) := by decide +kernel
theorem dX5_init_53 : decode cX5_init 53 = .ok (.newarray .int, 2) := by decide +kernel
theorem dX5_init_55 : decode cX5_init 55 = .ok (.putfield 30, 3) := by decide +kernel
theorem dX5_init_58 : decode cX5_init 58 = .ok (.aload_n 0, 1) := by decide +kernel
theorem dX5_init_59 : decode cX5_init 59 = .ok (.bipush 24, 2) := by decide +kernel
theorem dX5_init_61 : decode cX5_init 61 = .ok (.newarray .int, 2) := by decide +kernel
theorem dX5_init_63 : decode cX5_init 63 = .ok (.putfield 33, 3) := by decide +kernel
theorem dX5_init_66 : decode cX5_init 66 = .ok (.aload_n 0, 1) := by decide +kernel
theorem dX5_init_67 : decode cX5_init 67 = .ok (.bipush 24, 2) := by decide +kernel
theorem dX5_init_69 : decode cX5_init 69 = .ok (.newarray .int, 2) := by decide +kernel
theorem dX5_init_71 : decode cX5_init 71 = .ok (.putfield 36, 3) := by decide +kernel
theorem dX5_init_74 : decode cX5_init 74 = .ok (.aload_n 0, 1) := by decide +kernel
theorem dX5_init_75 : decode cX5_init 75 = .ok (.bipush 20, 2) := by decide +kernel
theorem dX5_init_77 : decode cX5_init 77 = .ok (.putfield 39, 3) := by decide +kernel
theorem dX5_init_80 : decode cX5_init 80 = .ok (.aload_n 0, 1) := by decide +kernel
theorem dX5_init_81 : decode cX5_init 81 = .ok (.bipush 40, 2) := by decide +kernel
theorem dX5_init_83 : decode cX5_init 83 = .ok (.putfield 42, 3) := by decide +kernel
theorem dX5_init_86 : decode cX5_init 86 = .ok (.aload_n 0, 1) := by decide +kernel
theorem dX5_init_87 : decode cX5_init 87 = .ok (.bipush 10, 2) := by decide +kernel
theorem dX5_init_89 : decode cX5_init 89 = .ok (.putfield 45, 3) := by decide +kernel
theorem dX5_init_92 : decode cX5_init 92 = .ok (.aload_n 0, 1) := by decide +kernel
theorem dX5_init_93 : decode cX5_init 93 = .ok (.iconst 4, 1) := by decide +kernel
theorem dX5_init_94 : decode cX5_init 94 = .ok (.newarray .int, 2) := by decide +kernel
theorem dX5_init_96 : decode cX5_init 96 = .ok (.putfield 48, 3) := by decide +kernel
theorem dX5_init_99 : decode cX5_init 99 = .ok (.aload_n 0, 1) := by decide +kernel
theorem dX5_init_100 : decode cX5_init 100 = .ok (.iconst 4, 1) := by decide +kernel
theorem dX5_init_101 : decode cX5_init 101 = .ok (.newarray .int, 2) := by decide +kernel
theorem dX5_init_103 : decode cX5_init 103 = .ok (.putfield 51, 3) := by decide +kernel
theorem dX5_init_106 : decode cX5_init 106 = .ok (.aload_n 0, 1) := by decide +kernel
theorem dX5_init_107 : decode cX5_init 107 = .ok (.iconst 4, 1) := by decide +kernel
theorem dX5_init_108 : decode cX5_init 108 = .ok (.newarray .int, 2) := by decide +kernel
theorem dX5_init_110 : decode cX5_init 110 = .ok (.putfield 54, 3) := by decide +kernel
theorem dX5_init_113 : decode cX5_init 113 = .ok (.aload_n 0, 1) := by decide +kernel
theorem dX5_init_114 : decode cX5_init 114 = .ok (.bipush 81, 2) := by decide +kernel
theorem dX5_init_116 : decode cX5_init 116 = .ok (.newarray .int, 2) := by decide +kernel
theorem dX5_init_118 : decode cX5_init 118 = .ok (.putfield 57, 3) := by decide +kernel
theorem dX5_init_121 : decode cX5_init 121 = .ok (.aload_n 0, 1) := by decide +kernel
theorem dX5_init_122 : decode cX5_init 122 = .ok (.sipush 10584, 3) := by decide +kernel
theorem dX5_init_125 : decode cX5_init 125 = .ok (.newarray .int, 2) := by decide +kernel
theorem dX5_init_127 : decode cX5_init 127 = .ok (.putfield 60, 3) := by decide +kernel
theorem dX5_init_130 : decode cX5_init 130 = .ok (.aload_n 0, 1) := by decide +kernel
theorem dX5_init_131 : decode cX5_init 131 = .ok (.bipush 25, 2) := by decide +kernel
theorem dX5_init_133 : decode cX5_init 133 = .ok (.newarray .int, 2) := by decide +kernel
theorem dX5_init_135 : decode cX5_init 135 = .ok (.putfield 63, 3) := by decide +kernel
theorem dX5_init_138 : decode cX5_init 138 = .ok (.aload_n 0, 1) := by decide +kernel
theorem dX5_init_139 : decode cX5_init 139 = .ok (.bipush 24, 2) := by decide +kernel
theorem dX5_init_141 : decode cX5_init 141 = .ok (.newarray .int, 2) := by decide +kernel
theorem dX5_init_143 : decode cX5_init 143 = .ok (.putfield 66, 3) := by decide +kernel
theorem dX5_init_146 : decode cX5_init 146 = .ok (.aload_n 0, 1) := by decide +kernel
theorem dX5_init_147 : decode cX5_init 147 = .ok (.sipush 4608, 3) := by decide +kernel
theorem dX5_init_150 : decode cX5_init 150 = .ok (.newarray .int, 2) := by decide +kernel
theorem dX5_init_152 : decode cX5_init 152 = .ok (.putfield 69, 3) := by decide +kernel
theorem dX5_init_155 : decode cX5_init 155 = .ok (.aload_n 0, 1) := by decide +kernel
theorem dX5_init_156 : decode cX5_init 156 = .ok (.invokevirtual 72, 3) := by decide +kernel
theorem dX5_init_159 : decode cX5_init 159 = .ok (.return_, 1) := by decide +kernel
theorem dX5_in_0 : decode cX5_in 0 = .ok (.iload_n 0, 1) := by decide +kernel
theorem dX5_in_1 : decode cX5_in 1 = .ok (.iload_n 1, 1) := by decide +kernel
theorem dX5_in_2 : decode cX5_in 2 = .ok (.if_icmp .lt 12, 3) := by decide +kernel
theorem dX5_in_5 : decode cX5_in 5 = .ok (.iload_n 0, 1) := by decide +kernel
theorem dX5_in_6 : decode cX5_in 6 = .ok (.iload_n 2, 1) := by decide +kernel
theorem dX5_in_7 : decode cX5_in 7 = .ok (.if_icmp .gt 7, 3) := by decide +kernel
theorem dX5_in_10 : decode cX5_in 10 = .ok (.iconst 1, 1) := by decide +kernel
theorem dX5_in_11 : decode cX5_in 11 = .ok (.goto 4, 3) := by decide +kernel
theorem dX5_in_14 : decode cX5_in 14 = .ok (.iconst 0, 1) := by decide +kernel
theorem dX5_in_15 : decode cX5_in 15 = .ok (.ireturn, 1) := by decide +kernel
theorem dX5_size_0 : decode cX5_size 0 = .ok (.iload_n 0, 1) := by decide +kernel
theorem dX5_size_1 : decode cX5_size 1 = .ok (.ifCond .ge 8, 3) := by decide +kernel
theorem dX5_size_4 : decode cX5_size 4 = .ok (.iload_n 0, 1) := by decide +kernel
theorem dX5_size_5 : decode cX5_size 5 = .ok (.ineg, 1) := by decide +kernel
theorem dX5_size_6 : decode cX5_size 6 = .ok (.goto 4, 3) := by decide +kernel
theorem dX5_size_9 : decode cX5_size 9 = .ok (.iload_n 0, 1) := by decide +kernel
theorem dX5_size_10 : decode cX5_size 10 = .ok (.ireturn, 1) := by decide +kernel
set_option maxRecDepth 20000 in
theorem ggX5_isPlace_X5_in : GoodIn wsX5_isPlace wsX5_in := goodIn_r _ [5] (by decide +kernel) (by decide +kernel)
set_option maxRecDepth 20000 in
theorem gX5_isPlace_X5_in : GoodIn wsX5_isPlace (va_wsS RX5 75 yX5_in wsX5_in) := goodIn_app (goodIn_of _ (by decide +kernel)) ggX5_isPlace_X5_in
theorem dX5_isPlace_0 : decode cX5_isPlace 0 = .ok (.iload_n 1, 1) := by decide +kernel
theorem dX5_isPlace_1 : decode cX5_isPlace 1 = .ok (.iconst 0, 1) := by decide +kernel
theorem dX5_isPlace_2 : decode cX5_isPlace 2 = .ok (.aload_n 0, 1) := by decide +kernel
theorem dX5_isPlace_3 : decode cX5_isPlace 3 = .ok (.getfield 7, 3) := by decide +kernel
theorem dX5_isPlace_6 : decode cX5_isPlace 6 = .ok (.iconst 1, 1) := by decide +kernel
theorem dX5_isPlace_7 : decode cX5_isPlace 7 = .ok (.isub, 1) := by decide +kernel
theorem dX5_isPlace_8 : decode cX5_isPlace 8 = .ok (.invokestatic 75, 3) := by decide +kernel
theorem dX5_isPlace_11 : decode cX5_isPlace 11 = .ok (.ireturn, 1) := by decide +kernel
theorem dX5_begin_0 : decode cX5_begin 0 = .ok (.aload_n 0, 1) := by decide +kernel
theorem dX5_begin_1 : decode cX5_begin 1 = .ok (.iconst 0, 1) := by decide +kernel
theorem dX5_begin_2 : decode cX5_begin 2 = .ok (.putfield 79, 3) := by decide +kernel
theorem dX5_begin_5 : decode cX5_begin 5 = .ok (.iconst 0, 1) := by decide +kernel
theorem dX5_begin_6 : decode cX5_begin 6 = .ok (.istore_n 1, 1) := by decide +kernel
theorem dX5_begin_7 : decode cX5_begin 7 = .ok (.iload_n 1, 1) := by decide +kernel
theorem dX5_begin_8 : decode cX5_begin 8 = .ok (.bipush 64, 2) := by decide +kernel
theorem dX5_begin_10 : decode cX5_begin 10 = .ok (.if_icmp .ge 23, 3) := by decide +kernel
theorem dX5_begin_13 : decode cX5_begin 13 = .ok (.aload_n 0, 1) := by decide +kernel
theorem dX5_begin_14 : decode cX5_begin 14 = .ok (.getfield 27, 3) := by decide +kernel
theorem dX5_begin_17 : decode cX5_begin 17 = .ok (.iload_n 1, 1) := by decide +kernel
theorem dX5_begin_18 : decode cX5_begin 18 = .ok (.iload_n 1, 1) := by decide +kernel
theorem dX5_begin_19 : decode cX5_begin 19 = .ok (.iastore, 1) := by decide +kernel
theorem dX5_begin_20 : decode cX5_begin 20 = .ok (.aload_n 0, 1) := by decide +kernel
theorem dX5_begin_21 : decode cX5_begin 21 = .ok (.getfield 30, 3) := by decide +kernel
theorem dX5_begin_24 : decode cX5_begin 24 = .ok (.iload_n 1, 1) := by decide +kernel
theorem dX5_begin_25 : decode cX5_begin 25 = .ok (.iconst 0, 1) := by decide +kernel
theorem dX5_begin_26 : decode cX5_begin 26 = .ok (.iastore, 1) := by decide +kernel
theorem dX5_begin_27 : decode cX5_begin 27 = .ok (.iinc 1 1, 3) := by decide +kernel
theorem dX5_begin_30 : decode cX5_begin 30 = .ok (.goto (-23), 3) := by decide +kernel
theorem dX5_begin_33 : decode cX5_begin 33 = .ok (.return_, 1) := by decide +kernel
set_option maxRecDepth 20000 in
theorem ggX5_sheet_X5_in : GoodIn wsX5_sheet wsX5_in := goodIn_r _ [8] (by decide +kernel) (by decide +kernel)
set_option maxRecDepth 20000 in
theorem gX5_sheet_X5_in : GoodIn wsX5_sheet (va_wsS RX5 75 yX5_in wsX5_in) := goodIn_app (goodIn_of _ (by decide +kernel)) ggX5_sheet_X5_in
set_option maxRecDepth 20000 in
theorem ggX5_sheet_X5_begin : GoodIn wsX5_sheet wsX5_begin := goodIn_r _ [12, 13, 14, 15, 16, 17, 18, 19, 20, 21, 22, 23, 24, 25, 26, 27, 28, 29, 30, 31, 32, 33, 34, 35, 36, 37, 38, 39] (by decide +kernel) (by decide +kernel)
set_option maxRecDepth 20000 in
theorem gX5_sheet_X5_begin : GoodIn wsX5_sheet (wsV RX5 72 RX5 yX5_begin wsX5_begin) := goodIn_app (goodIn_of _ (by decide +kernel)) ggX5_sheet_X5_begin
theorem dX5_sheet_0 : decode cX5_sheet 0 = .ok (.iload_n 1, 1) := by decide +kernel
theorem dX5_sheet_1 : decode cX5_sheet 1 = .ok (.iconst 2, 1) := by decide +kernel
theorem dX5_sheet_2 : decode cX5_sheet 2 = .ok (.bipush 24, 2) := by decide +kernel
theorem dX5_sheet_4 : decode cX5_sheet 4 = .ok (.invokestatic 75, 3) := by decide +kernel
theorem dX5_sheet_7 : decode cX5_sheet 7 = .ok (.ifCond .ne 6, 3) := by decide +kernel
theorem dX5_sheet_10 : decode cX5_sheet 10 = .ok (.bipush (-2), 2) := by decide +kernel
theorem dX5_sheet_12 : decode cX5_sheet 12 = .ok (.ireturn, 1) := by decide +kernel
theorem dX5_sheet_13 : decode cX5_sheet 13 = .ok (.aload_n 0, 1) := by decide +kernel
theorem dX5_sheet_14 : decode cX5_sheet 14 = .ok (.getfield 7, 3) := by decide +kernel
theorem dX5_sheet_17 : decode cX5_sheet 17 = .ok (.istore_n 2, 1) := by decide +kernel
theorem dX5_sheet_18 : decode cX5_sheet 18 = .ok (.aload_n 0, 1) := by decide +kernel
theorem dX5_sheet_19 : decode cX5_sheet 19 = .ok (.iload_n 1, 1) := by decide +kernel
theorem dX5_sheet_20 : decode cX5_sheet 20 = .ok (.putfield 7, 3) := by decide +kernel
theorem dX5_sheet_23 : decode cX5_sheet 23 = .ok (.aload_n 0, 1) := by decide +kernel
theorem dX5_sheet_24 : decode cX5_sheet 24 = .ok (.iconst 0, 1) := by decide +kernel
theorem dX5_sheet_25 : decode cX5_sheet 25 = .ok (.putfield 82, 3) := by decide +kernel
theorem dX5_sheet_28 : decode cX5_sheet 28 = .ok (.iconst 0, 1) := by decide +kernel
theorem dX5_sheet_29 : decode cX5_sheet 29 = .ok (.istore_n 3, 1) := by decide +kernel
theorem dX5_sheet_30 : decode cX5_sheet 30 = .ok (.iload_n 3, 1) := by decide +kernel
theorem dX5_sheet_31 : decode cX5_sheet 31 = .ok (.bipush 24, 2) := by decide +kernel
theorem dX5_sheet_33 : decode cX5_sheet 33 = .ok (.if_icmp .ge 23, 3) := by decide +kernel
theorem dX5_sheet_36 : decode cX5_sheet 36 = .ok (.aload_n 0, 1) := by decide +kernel
theorem dX5_sheet_37 : decode cX5_sheet 37 = .ok (.getfield 33, 3) := by decide +kernel
theorem dX5_sheet_40 : decode cX5_sheet 40 = .ok (.iload_n 3, 1) := by decide +kernel
theorem dX5_sheet_41 : decode cX5_sheet 41 = .ok (.iconst 0, 1) := by decide +kernel
theorem dX5_sheet_42 : decode cX5_sheet 42 = .ok (.iastore, 1) := by decide +kernel
theorem dX5_sheet_43 : decode cX5_sheet 43 = .ok (.aload_n 0, 1) := by decide +kernel
theorem dX5_sheet_44 : decode cX5_sheet 44 = .ok (.getfield 36, 3) := by decide +kernel
theorem dX5_sheet_47 : decode cX5_sheet 47 = .ok (.iload_n 3, 1) := by decide +kernel
theorem dX5_sheet_48 : decode cX5_sheet 48 = .ok (.iconst 0, 1) := by decide +kernel
theorem dX5_sheet_49 : decode cX5_sheet 49 = .ok (.iastore, 1) := by decide +kernel
theorem dX5_sheet_50 : decode cX5_sheet 50 = .ok (.iinc 3 1, 3) := by decide +kernel
theorem dX5_sheet_53 : decode cX5_sheet 53 = .ok (.goto (-23), 3) := by decide +kernel
theorem dX5_sheet_56 : decode cX5_sheet 56 = .ok (.aload_n 0, 1) := by decide +kernel
theorem dX5_sheet_57 : decode cX5_sheet 57 = .ok (.invokevirtual 72, 3) := by decide +kernel
theorem dX5_sheet_60 : decode cX5_sheet 60 = .ok (.iload_n 2, 1) := by decide +kernel
theorem dX5_sheet_61 : decode cX5_sheet 61 = .ok (.ireturn, 1) := by decide +kernel
set_option maxRecDepth 20000 in
theorem ggX5_read_X5_isPlace : GoodIn wsX5_read wsX5_isPlace := goodIn_r _ [12, 13, 14, 15, 11, 16, 17, 18, 19, 20, 21, 22, 23, 24, 25, 26, 27, 28, 29, 30, 31, 32, 33, 34, 35, 36, 37, 38, 39, 40] (by decide +kernel) (by decide +kernel)
set_option maxRecDepth 20000 in
theorem gX5_read_X5_isPlace : GoodIn wsX5_read (wsV RX5 85 RX5 yX5_isPlace wsX5_isPlace) := goodIn_app (goodIn_of _ (by decide +kernel)) ggX5_read_X5_isPlace
set_option maxRecDepth 20000 in
theorem ggX5_read_X5_in : GoodIn wsX5_read wsX5_in := goodIn_r _ [16] (by decide +kernel) (by decide +kernel)
set_option maxRecDepth 20000 in
theorem gX5_read_X5_in : GoodIn wsX5_read (va_wsS RX5 75 yX5_in wsX5_in) := goodIn_app (goodIn_of _ (by decide +kernel)) ggX5_read_X5_in
theorem dX5_read_0 : decode cX5_read 0 = .ok (.aload_n 0, 1) := by decide +kernel
theorem dX5_read_1 : decode cX5_read 1 = .ok (.iload_n 2, 1) := by decide +kernel
theorem dX5_read_2 : decode cX5_read 2 = .ok (.invokevirtual 85, 3) := by decide +kernel
theorem dX5_read_5 : decode cX5_read 5 = .ok (.ifCond .ne 5, 3) := by decide +kernel
theorem dX5_read_8 : decode cX5_read 8 = .ok (.iconst (-1), 1) := by decide +kernel
theorem dX5_read_9 : decode cX5_read 9 = .ok (.ireturn, 1) := by decide +kernel
theorem dX5_read_10 : decode cX5_read 10 = .ok (.iload_n 1, 1) := by decide +kernel
theorem dX5_read_11 : decode cX5_read 11 = .ok (.iconst 0, 1) := by decide +kernel
theorem dX5_read_12 : decode cX5_read 12 = .ok (.bipush 39, 2) := by decide +kernel
theorem dX5_read_14 : decode cX5_read 14 = .ok (.invokestatic 75, 3) := by decide +kernel
theorem dX5_read_17 : decode cX5_read 17 = .ok (.ifCond .eq 16, 3) := by decide +kernel
theorem dX5_read_20 : decode cX5_read 20 = .ok (.iload_n 3, 1) := by decide +kernel
theorem dX5_read_21 : decode cX5_read 21 = .ok (.sipush (-1000), 3) := by decide +kernel
theorem dX5_read_24 : decode cX5_read 24 = .ok (.sipush 1000, 3) := by decide +kernel
theorem dX5_read_27 : decode cX5_read 27 = .ok (.invokestatic 75, 3) := by decide +kernel
theorem dX5_read_30 : decode cX5_read 30 = .ok (.ifCond .ne 6, 3) := by decide +kernel
theorem dX5_read_33 : decode cX5_read 33 = .ok (.bipush (-2), 2) := by decide +kernel
theorem dX5_read_35 : decode cX5_read 35 = .ok (.ireturn, 1) := by decide +kernel
theorem dX5_read_36 : decode cX5_read 36 = .ok (.aload_n 0, 1) := by decide +kernel
theorem dX5_read_37 : decode cX5_read 37 = .ok (.getfield 79, 3) := by decide +kernel
theorem dX5_read_40 : decode cX5_read 40 = .ok (.bipush 100, 2) := by decide +kernel
theorem dX5_read_42 : decode cX5_read 42 = .ok (.if_icmp .ne 6, 3) := by decide +kernel
theorem dX5_read_45 : decode cX5_read 45 = .ok (.bipush (-4), 2) := by decide +kernel
theorem dX5_read_47 : decode cX5_read 47 = .ok (.ireturn, 1) := by decide +kernel
theorem dX5_read_48 : decode cX5_read 48 = .ok (.iload_n 1, 1) := by decide +kernel
theorem dX5_read_49 : decode cX5_read 49 = .ok (.istore 4, 2) := by decide +kernel
theorem dX5_read_51 : decode cX5_read 51 = .ok (.bipush 40, 2) := by decide +kernel
theorem dX5_read_53 : decode cX5_read 53 = .ok (.iload_n 2, 1) := by decide +kernel
theorem dX5_read_54 : decode cX5_read 54 = .ok (.iadd, 1) := by decide +kernel
theorem dX5_read_55 : decode cX5_read 55 = .ok (.istore 5, 2) := by decide +kernel
theorem dX5_read_57 : decode cX5_read 57 = .ok (.iconst 1, 1) := by decide +kernel
theorem dX5_read_58 : decode cX5_read 58 = .ok (.istore 6, 2) := by decide +kernel
theorem dX5_read_60 : decode cX5_read 60 = .ok (.aload_n 0, 1) := by decide +kernel
theorem dX5_read_61 : decode cX5_read 61 = .ok (.getfield 27, 3) := by decide +kernel
theorem dX5_read_64 : decode cX5_read 64 = .ok (.iload 4, 2) := by decide +kernel
theorem dX5_read_66 : decode cX5_read 66 = .ok (.iaload, 1) := by decide +kernel
theorem dX5_read_67 : decode cX5_read 67 = .ok (.aload_n 0, 1) := by decide +kernel
theorem dX5_read_68 : decode cX5_read 68 = .ok (.getfield 27, 3) := by decide +kernel
theorem dX5_read_71 : decode cX5_read 71 = .ok (.iload 5, 2) := by decide +kernel
theorem dX5_read_73 : decode cX5_read 73 = .ok (.iaload, 1) := by decide +kernel
theorem dX5_read_74 : decode cX5_read 74 = .ok (.if_icmp .ne 32, 3) := by decide +kernel
theorem dX5_read_77 : decode cX5_read 77 = .ok (.aload_n 0, 1) := by decide +kernel
theorem dX5_read_78 : decode cX5_read 78 = .ok (.getfield 30, 3) := by decide +kernel
theorem dX5_read_81 : decode cX5_read 81 = .ok (.iload 4, 2) := by decide +kernel
theorem dX5_read_83 : decode cX5_read 83 = .ok (.iaload, 1) := by decide +kernel
theorem dX5_read_84 : decode cX5_read 84 = .ok (.aload_n 0, 1) := by decide +kernel
theorem dX5_read_85 : decode cX5_read 85 = .ok (.getfield 30, 3) := by decide +kernel
theorem dX5_read_88 : decode cX5_read 88 = .ok (.iload 5, 2) := by decide +kernel
theorem dX5_read_90 : decode cX5_read 90 = .ok (.iaload, 1) := by decide +kernel
theorem dX5_read_91 : decode cX5_read 91 = .ok (.isub, 1) := by decide +kernel
theorem dX5_read_92 : decode cX5_read 92 = .ok (.iload_n 3, 1) := by decide +kernel
theorem dX5_read_93 : decode cX5_read 93 = .ok (.if_icmp .ne 7, 3) := by decide +kernel
theorem dX5_read_96 : decode cX5_read 96 = .ok (.iconst 1, 1) := by decide +kernel
theorem dX5_read_97 : decode cX5_read 97 = .ok (.goto 4, 3) := by decide +kernel
theorem dX5_read_100 : decode cX5_read 100 = .ok (.iconst 0, 1) := by decide +kernel
theorem dX5_read_101 : decode cX5_read 101 = .ok (.istore 6, 2) := by decide +kernel
theorem dX5_read_103 : decode cX5_read 103 = .ok (.goto 85, 3) := by decide +kernel
theorem dX5_read_106 : decode cX5_read 106 = .ok (.aload_n 0, 1) := by decide +kernel
theorem dX5_read_107 : decode cX5_read 107 = .ok (.getfield 27, 3) := by decide +kernel
theorem dX5_read_110 : decode cX5_read 110 = .ok (.iload 5, 2) := by decide +kernel
theorem dX5_read_112 : decode cX5_read 112 = .ok (.iaload, 1) := by decide +kernel
theorem dX5_read_113 : decode cX5_read 113 = .ok (.istore 7, 2) := by decide +kernel
theorem dX5_read_115 : decode cX5_read 115 = .ok (.aload_n 0, 1) := by decide +kernel
theorem dX5_read_116 : decode cX5_read 116 = .ok (.getfield 30, 3) := by decide +kernel
theorem dX5_read_119 : decode cX5_read 119 = .ok (.iload 4, 2) := by decide +kernel
theorem dX5_read_121 : decode cX5_read 121 = .ok (.iaload, 1) := by decide +kernel
theorem dX5_read_122 : decode cX5_read 122 = .ok (.iload_n 3, 1) := by decide +kernel
theorem dX5_read_123 : decode cX5_read 123 = .ok (.isub, 1) := by decide +kernel
theorem dX5_read_124 : decode cX5_read 124 = .ok (.aload_n 0, 1) := by decide +kernel
theorem dX5_read_125 : decode cX5_read 125 = .ok (.getfield 30, 3) := by decide +kernel
theorem dX5_read_128 : decode cX5_read 128 = .ok (.iload 5, 2) := by decide +kernel
theorem dX5_read_130 : decode cX5_read 130 = .ok (.iaload, 1) := by decide +kernel
theorem dX5_read_131 : decode cX5_read 131 = .ok (.isub, 1) := by decide +kernel
theorem dX5_read_132 : decode cX5_read 132 = .ok (.istore 8, 2) := by decide +kernel
theorem dX5_read_134 : decode cX5_read 134 = .ok (.iconst 0, 1) := by decide +kernel
theorem dX5_read_135 : decode cX5_read 135 = .ok (.istore 9, 2) := by decide +kernel
theorem dX5_read_137 : decode cX5_read 137 = .ok (.iload 9, 2) := by decide +kernel
theorem dX5_read_139 : decode cX5_read 139 = .ok (.bipush 64, 2) := by decide +kernel
theorem dX5_read_141 : decode cX5_read 141 = .ok (.if_icmp .ge 47, 3) := by decide +kernel
theorem dX5_read_144 : decode cX5_read 144 = .ok (.aload_n 0, 1) := by decide +kernel
theorem dX5_read_145 : decode cX5_read 145 = .ok (.getfield 27, 3) := by decide +kernel
theorem dX5_read_148 : decode cX5_read 148 = .ok (.iload 9, 2) := by decide +kernel
theorem dX5_read_150 : decode cX5_read 150 = .ok (.iaload, 1) := by decide +kernel
theorem dX5_read_151 : decode cX5_read 151 = .ok (.iload 7, 2) := by decide +kernel
theorem dX5_read_153 : decode cX5_read 153 = .ok (.if_icmp .ne 29, 3) := by decide +kernel
theorem dX5_read_156 : decode cX5_read 156 = .ok (.aload_n 0, 1) := by decide +kernel
theorem dX5_read_157 : decode cX5_read 157 = .ok (.getfield 27, 3) := by decide +kernel
theorem dX5_read_160 : decode cX5_read 160 = .ok (.iload 9, 2) := by decide +kernel
theorem dX5_read_162 : decode cX5_read 162 = .ok (.aload_n 0, 1) := by decide +kernel
theorem dX5_read_163 : decode cX5_read 163 = .ok (.getfield 27, 3) := by decide +kernel
theorem dX5_read_166 : decode cX5_read 166 = .ok (.iload 4, 2) := by decide +kernel
theorem dX5_read_168 : decode cX5_read 168 = .ok (.iaload, 1) := by decide +kernel
theorem dX5_read_169 : decode cX5_read 169 = .ok (.iastore, 1) := by decide +kernel
theorem dX5_read_170 : decode cX5_read 170 = .ok (.aload_n 0, 1) := by decide +kernel
theorem dX5_read_171 : decode cX5_read 171 = .ok (.getfield 30, 3) := by decide +kernel
theorem dX5_read_174 : decode cX5_read 174 = .ok (.iload 9, 2) := by decide +kernel
theorem dX5_read_176 : decode cX5_read 176 = .ok (.dup2, 1) := by decide +kernel
theorem dX5_read_177 : decode cX5_read 177 = .ok (.iaload, 1) := by decide +kernel
theorem dX5_read_178 : decode cX5_read 178 = .ok (.iload 8, 2) := by decide +kernel
theorem dX5_read_180 : decode cX5_read 180 = .ok (.iadd, 1) := by decide +kernel
theorem dX5_read_181 : decode cX5_read 181 = .ok (.iastore, 1) := by decide +kernel
theorem dX5_read_182 : decode cX5_read 182 = .ok (.iinc 9 1, 3) := by decide +kernel
theorem dX5_read_185 : decode cX5_read 185 = .ok (.goto (-48), 3) := by decide +kernel
theorem dX5_read_188 : decode cX5_read 188 = .ok (.aload_n 0, 1) := by decide +kernel
theorem dX5_read_189 : decode cX5_read 189 = .ok (.getfield 13, 3) := by decide +kernel
theorem dX5_read_192 : decode cX5_read 192 = .ok (.aload_n 0, 1) := by decide +kernel
theorem dX5_read_193 : decode cX5_read 193 = .ok (.getfield 79, 3) := by decide +kernel
theorem dX5_read_196 : decode cX5_read 196 = .ok (.iload_n 1, 1) := by decide +kernel
theorem dX5_read_197 : decode cX5_read 197 = .ok (.iastore, 1) := by decide +kernel
theorem dX5_read_198 : decode cX5_read 198 = .ok (.aload_n 0, 1) := by decide +kernel
theorem dX5_read_199 : decode cX5_read 199 = .ok (.getfield 17, 3) := by decide +kernel
theorem dX5_read_202 : decode cX5_read 202 = .ok (.aload_n 0, 1) := by decide +kernel
theorem dX5_read_203 : decode cX5_read 203 = .ok (.getfield 79, 3) := by decide +kernel
theorem dX5_read_206 : decode cX5_read 206 = .ok (.iload_n 2, 1) := by decide +kernel
theorem dX5_read_207 : decode cX5_read 207 = .ok (.iastore, 1) := by decide +kernel
theorem dX5_read_208 : decode cX5_read 208 = .ok (.aload_n 0, 1) := by decide +kernel
theorem dX5_read_209 : decode cX5_read 209 = .ok (.getfield 20, 3) := by decide +kernel
theorem dX5_read_212 : decode cX5_read 212 = .ok (.aload_n 0, 1) := by decide +kernel
theorem dX5_read_213 : decode cX5_read 213 = .ok (.getfield 79, 3) := by decide +kernel
theorem dX5_read_216 : decode cX5_read 216 = .ok (.iload_n 3, 1) := by decide +kernel
theorem dX5_read_217 : decode cX5_read 217 = .ok (.iastore, 1) := by decide +kernel
theorem dX5_read_218 : decode cX5_read 218 = .ok (.aload_n 0, 1) := by decide +kernel
theorem dX5_read_219 : decode cX5_read 219 = .ok (.getfield 23, 3) := by decide +kernel
theorem dX5_read_222 : decode cX5_read 222 = .ok (.aload_n 0, 1) := by decide +kernel
theorem dX5_read_223 : decode cX5_read 223 = .ok (.getfield 79, 3) := by decide +kernel
theorem dX5_read_226 : decode cX5_read 226 = .ok (.iload 6, 2) := by decide +kernel
theorem dX5_read_228 : decode cX5_read 228 = .ok (.bastore, 1) := by decide +kernel
theorem dX5_read_229 : decode cX5_read 229 = .ok (.aload_n 0, 1) := by decide +kernel
theorem dX5_read_230 : decode cX5_read 230 = .ok (.dup, 1) := by decide +kernel
theorem dX5_read_231 : decode cX5_read 231 = .ok (.getfield 79, 3) := by decide +kernel
theorem dX5_read_234 : decode cX5_read 234 = .ok (.iconst 1, 1) := by decide +kernel
theorem dX5_read_235 : decode cX5_read 235 = .ok (.iadd, 1) := by decide +kernel
theorem dX5_read_236 : decode cX5_read 236 = .ok (.putfield 79, 3) := by decide +kernel
theorem dX5_read_239 : decode cX5_read 239 = .ok (.iload 6, 2) := by decide +kernel
theorem dX5_read_241 : decode cX5_read 241 = .ok (.ifCond .eq 7, 3) := by decide +kernel
theorem dX5_read_244 : decode cX5_read 244 = .ok (.iconst 1, 1) := by decide +kernel
theorem dX5_read_245 : decode cX5_read 245 = .ok (.goto 4, 3) := by decide +kernel
theorem dX5_read_248 : decode cX5_read 248 = .ok (.iconst 0, 1) := by decide +kernel
theorem dX5_read_249 : decode cX5_read 249 = .ok (.ireturn, 1) := by decide +kernel
set_option maxRecDepth 20000 in
theorem ggX5_reading_X5_in : GoodIn wsX5_reading wsX5_in := goodIn_r _ [11] (by decide +kernel) (by decide +kernel)
set_option maxRecDepth 20000 in
theorem gX5_reading_X5_in : GoodIn wsX5_reading (va_wsS RX5 75 yX5_in wsX5_in) := goodIn_app (goodIn_of _ (by decide +kernel)) ggX5_reading_X5_in
theorem dX5_reading_0 : decode cX5_reading 0 = .ok (.iload_n 1, 1) := by decide +kernel
theorem dX5_reading_1 : decode cX5_reading 1 = .ok (.iconst 0, 1) := by decide +kernel
theorem dX5_reading_2 : decode cX5_reading 2 = .ok (.aload_n 0, 1) := by decide +kernel
theorem dX5_reading_3 : decode cX5_reading 3 = .ok (.getfield 79, 3) := by decide +kernel
theorem dX5_reading_6 : decode cX5_reading 6 = .ok (.iconst 1, 1) := by decide +kernel
theorem dX5_reading_7 : decode cX5_reading 7 = .ok (.isub, 1) := by decide +kernel
theorem dX5_reading_8 : decode cX5_reading 8 = .ok (.invokestatic 75, 3) := by decide +kernel
theorem dX5_reading_11 : decode cX5_reading 11 = .ok (.ifCond .ne 6, 3) := by decide +kernel
theorem dX5_reading_14 : decode cX5_reading 14 = .ok (.ldc 89, 2) := by decide +kernel
theorem dX5_reading_16 : decode cX5_reading 16 = .ok (.ireturn, 1) := by decide +kernel
theorem dX5_reading_17 : decode cX5_reading 17 = .ok (.iload_n 2, 1) := by decide +kernel
theorem dX5_reading_18 : decode cX5_reading 18 = .ok (.tableswitch 66 0 3 #[30, 37, 44, 51], 30) := by decide +kernel
theorem dX5_reading_48 : decode cX5_reading 48 = .ok (.aload_n 0, 1) := by decide +kernel
theorem dX5_reading_49 : decode cX5_reading 49 = .ok (.getfield 13, 3) := by decide +kernel
theorem dX5_reading_52 : decode cX5_reading 52 = .ok (.iload_n 1, 1) := by decide +kernel
theorem dX5_reading_53 : decode cX5_reading 53 = .ok (.iaload, 1) := by decide +kernel
theorem dX5_reading_54 : decode cX5_reading 54 = .ok (.ireturn, 1) := by decide +kernel
theorem dX5_reading_55 : decode cX5_reading 55 = .ok (.aload_n 0, 1) := by decide +kernel
theorem dX5_reading_56 : decode cX5_reading 56 = .ok (.getfield 17, 3) := by decide +kernel
theorem dX5_reading_59 : decode cX5_reading 59 = .ok (.iload_n 1, 1) := by decide +kernel
theorem dX5_reading_60 : decode cX5_reading 60 = .ok (.iaload, 1) := by decide +kernel
theorem dX5_reading_61 : decode cX5_reading 61 = .ok (.ireturn, 1) := by decide +kernel
theorem dX5_reading_62 : decode cX5_reading 62 = .ok (.aload_n 0, 1) := by decide +kernel
theorem dX5_reading_63 : decode cX5_reading 63 = .ok (.getfield 20, 3) := by decide +kernel
theorem dX5_reading_66 : decode cX5_reading 66 = .ok (.iload_n 1, 1) := by decide +kernel
theorem dX5_reading_67 : decode cX5_reading 67 = .ok (.iaload, 1) := by decide +kernel
theorem dX5_reading_68 : decode cX5_reading 68 = .ok (.ireturn, 1) := by decide +kernel
theorem dX5_reading_69 : decode cX5_reading 69 = .ok (.aload_n 0, 1) := by decide +kernel
theorem dX5_reading_70 : decode cX5_reading 70 = .ok (.getfield 23, 3) := by decide +kernel
theorem dX5_reading_73 : decode cX5_reading 73 = .ok (.iload_n 1, 1) := by decide +kernel
theorem dX5_reading_74 : decode cX5_reading 74 = .ok (.baload, 1) := by decide +kernel
theorem dX5_reading_75 : decode cX5_reading 75 = .ok (.ifCond .eq 7, 3) := by decide +kernel
theorem dX5_reading_78 : decode cX5_reading 78 = .ok (.iconst 1, 1) := by decide +kernel
theorem dX5_reading_79 : decode cX5_reading 79 = .ok (.goto 4, 3) := by decide +kernel
theorem dX5_reading_82 : decode cX5_reading 82 = .ok (.iconst 0, 1) := by decide +kernel
theorem dX5_reading_83 : decode cX5_reading 83 = .ok (.ireturn, 1) := by decide +kernel
theorem dX5_reading_84 : decode cX5_reading 84 = .ok (.ldc 90, 2) := by decide +kernel
theorem dX5_reading_86 : decode cX5_reading 86 = .ok (.ireturn, 1) := by decide +kernel
theorem dX5_isAcross_0 : decode cX5_isAcross 0 = .ok (.aload_n 0, 1) := by decide +kernel
theorem dX5_isAcross_1 : decode cX5_isAcross 1 = .ok (.getfield 27, 3) := by decide +kernel
theorem dX5_isAcross_4 : decode cX5_isAcross 4 = .ok (.bipush 40, 2) := by decide +kernel
theorem dX5_isAcross_6 : decode cX5_isAcross 6 = .ok (.iload_n 1, 1) := by decide +kernel
theorem dX5_isAcross_7 : decode cX5_isAcross 7 = .ok (.iadd, 1) := by decide +kernel
theorem dX5_isAcross_8 : decode cX5_isAcross 8 = .ok (.iaload, 1) := by decide +kernel
theorem dX5_isAcross_9 : decode cX5_isAcross 9 = .ok (.aload_n 0, 1) := by decide +kernel
theorem dX5_isAcross_10 : decode cX5_isAcross 10 = .ok (.getfield 27, 3) := by decide +kernel
theorem dX5_isAcross_13 : decode cX5_isAcross 13 = .ok (.bipush 40, 2) := by decide +kernel
theorem dX5_isAcross_15 : decode cX5_isAcross 15 = .ok (.iaload, 1) := by decide +kernel
theorem dX5_isAcross_16 : decode cX5_isAcross 16 = .ok (.if_icmp .ne 7, 3) := by decide +kernel
theorem dX5_isAcross_19 : decode cX5_isAcross 19 = .ok (.iconst 1, 1) := by decide +kernel
theorem dX5_isAcross_20 : decode cX5_isAcross 20 = .ok (.goto 4, 3) := by decide +kernel
theorem dX5_isAcross_23 : decode cX5_isAcross 23 = .ok (.iconst 0, 1) := by decide +kernel
theorem dX5_isAcross_24 : decode cX5_isAcross 24 = .ok (.ireturn, 1) := by decide +kernel
theorem dX5_acrossOf_0 : decode cX5_acrossOf 0 = .ok (.aload_n 0, 1) := by decide +kernel
theorem dX5_acrossOf_1 : decode cX5_acrossOf 1 = .ok (.getfield 30, 3) := by decide +kernel
theorem dX5_acrossOf_4 : decode cX5_acrossOf 4 = .ok (.bipush 40, 2) := by decide +kernel
theorem dX5_acrossOf_6 : decode cX5_acrossOf 6 = .ok (.iaload, 1) := by decide +kernel
theorem dX5_acrossOf_7 : decode cX5_acrossOf 7 = .ok (.aload_n 0, 1) := by decide +kernel
theorem dX5_acrossOf_8 : decode cX5_acrossOf 8 = .ok (.getfield 30, 3) := by decide +kernel
theorem dX5_acrossOf_11 : decode cX5_acrossOf 11 = .ok (.bipush 40, 2) := by decide +kernel
theorem dX5_acrossOf_13 : decode cX5_acrossOf 13 = .ok (.iload_n 1, 1) := by decide +kernel
theorem dX5_acrossOf_14 : decode cX5_acrossOf 14 = .ok (.iadd, 1) := by decide +kernel
theorem dX5_acrossOf_15 : decode cX5_acrossOf 15 = .ok (.iaload, 1) := by decide +kernel
theorem dX5_acrossOf_16 : decode cX5_acrossOf 16 = .ok (.isub, 1) := by decide +kernel
theorem dX5_acrossOf_17 : decode cX5_acrossOf 17 = .ok (.ireturn, 1) := by decide +kernel
set_option maxRecDepth 20000 in
theorem ggX5_across_X5_isPlace : GoodIn wsX5_across wsX5_isPlace := goodIn_r _ [7, 8, 9, 10, 6, 11, 22, 23, 24, 25, 26, 27, 28, 29, 30, 31, 32, 33, 34, 35, 36, 37, 38, 39, 40, 41, 42, 43, 44, 45] (by decide +kernel) (by decide +kernel)
set_option maxRecDepth 20000 in
theorem gX5_across_X5_isPlace : GoodIn wsX5_across (wsV RX5 85 RX5 yX5_isPlace wsX5_isPlace) := goodIn_app (goodIn_of _ (by decide +kernel)) ggX5_across_X5_isPlace
set_option maxRecDepth 20000 in
theorem ggX5_across_X5_isAcross : GoodIn wsX5_across wsX5_isAcross := goodIn_r _ [15, 16, 22, 23, 24, 25, 26, 27, 28, 29, 30, 31, 32, 33, 34, 35, 36, 37, 38, 39, 40, 41, 42, 43, 44, 45] (by decide +kernel) (by decide +kernel)
set_option maxRecDepth 20000 in
theorem gX5_across_X5_isAcross : GoodIn wsX5_across (wsV RX5 91 RX5 yX5_isAcross wsX5_isAcross) := goodIn_app (goodIn_of _ (by decide +kernel)) ggX5_across_X5_isAcross
set_option maxRecDepth 20000 in
theorem ggX5_across_X5_acrossOf : GoodIn wsX5_across wsX5_acrossOf := goodIn_r _ [20, 21, 22, 23, 24, 25, 26, 27, 28, 29, 30, 31, 32, 33, 34, 35, 36, 37, 38, 39, 40, 41, 42, 43, 44, 45] (by decide +kernel) (by decide +kernel)
set_option maxRecDepth 20000 in
theorem gX5_across_X5_acrossOf : GoodIn wsX5_across (wsV RX5 94 RX5 yX5_acrossOf wsX5_acrossOf) := goodIn_app (goodIn_of _ (by decide +kernel)) ggX5_across_X5_acrossOf
theorem dX5_across_0 : decode cX5_across 0 = .ok (.aload_n 0, 1) := by decide +kernel
theorem dX5_across_1 : decode cX5_across 1 = .ok (.iload_n 1, 1) := by decide +kernel
theorem dX5_across_2 : decode cX5_across 2 = .ok (.invokevirtual 85, 3) := by decide +kernel
theorem dX5_across_5 : decode cX5_across 5 = .ok (.ifCond .ne 6, 3) := by decide +kernel
theorem dX5_across_8 : decode cX5_across 8 = .ok (.ldc 89, 2) := by decide +kernel
theorem dX5_across_10 : decode cX5_across 10 = .ok (.ireturn, 1) := by decide +kernel
theorem dX5_across_11 : decode cX5_across 11 = .ok (.aload_n 0, 1) := by decide +kernel
theorem dX5_across_12 : decode cX5_across 12 = .ok (.iload_n 1, 1) := by decide +kernel
theorem dX5_across_13 : decode cX5_across 13 = .ok (.invokevirtual 91, 3) := by decide +kernel
theorem dX5_across_16 : decode cX5_across 16 = .ok (.ifCond .eq 11, 3) := by decide +kernel
theorem dX5_across_19 : decode cX5_across 19 = .ok (.aload_n 0, 1) := by decide +kernel
theorem dX5_across_20 : decode cX5_across 20 = .ok (.iload_n 1, 1) := by decide +kernel
theorem dX5_across_21 : decode cX5_across 21 = .ok (.invokevirtual 94, 3) := by decide +kernel
theorem dX5_across_24 : decode cX5_across 24 = .ok (.goto 5, 3) := by decide +kernel
theorem dX5_across_27 : decode cX5_across 27 = .ok (.ldc 98, 2) := by decide +kernel
theorem dX5_across_29 : decode cX5_across 29 = .ok (.ireturn, 1) := by decide +kernel
set_option maxRecDepth 20000 in
theorem ggX5_along_X5_in : GoodIn wsX5_along wsX5_in := goodIn_r _ [8] (by decide +kernel) (by decide +kernel)
set_option maxRecDepth 20000 in
theorem gX5_along_X5_in : GoodIn wsX5_along (va_wsS RX5 75 yX5_in wsX5_in) := goodIn_app (goodIn_of _ (by decide +kernel)) ggX5_along_X5_in
theorem dX5_along_0 : decode cX5_along 0 = .ok (.iload_n 1, 1) := by decide +kernel
theorem dX5_along_1 : decode cX5_along 1 = .ok (.iconst 0, 1) := by decide +kernel
theorem dX5_along_2 : decode cX5_along 2 = .ok (.bipush 39, 2) := by decide +kernel
theorem dX5_along_4 : decode cX5_along 4 = .ok (.invokestatic 75, 3) := by decide +kernel
theorem dX5_along_7 : decode cX5_along 7 = .ok (.ifCond .eq 13, 3) := by decide +kernel
theorem dX5_along_10 : decode cX5_along 10 = .ok (.iload_n 2, 1) := by decide +kernel
theorem dX5_along_11 : decode cX5_along 11 = .ok (.iconst 0, 1) := by decide +kernel
theorem dX5_along_12 : decode cX5_along 12 = .ok (.bipush 39, 2) := by decide +kernel
theorem dX5_along_14 : decode cX5_along 14 = .ok (.invokestatic 75, 3) := by decide +kernel
theorem dX5_along_17 : decode cX5_along 17 = .ok (.ifCond .ne 6, 3) := by decide +kernel
theorem dX5_along_20 : decode cX5_along 20 = .ok (.ldc 89, 2) := by decide +kernel
theorem dX5_along_22 : decode cX5_along 22 = .ok (.ireturn, 1) := by decide +kernel
theorem dX5_along_23 : decode cX5_along 23 = .ok (.aload_n 0, 1) := by decide +kernel
theorem dX5_along_24 : decode cX5_along 24 = .ok (.getfield 27, 3) := by decide +kernel
theorem dX5_along_27 : decode cX5_along 27 = .ok (.iload_n 1, 1) := by decide +kernel
theorem dX5_along_28 : decode cX5_along 28 = .ok (.iaload, 1) := by decide +kernel
theorem dX5_along_29 : decode cX5_along 29 = .ok (.aload_n 0, 1) := by decide +kernel
theorem dX5_along_30 : decode cX5_along 30 = .ok (.getfield 27, 3) := by decide +kernel
theorem dX5_along_33 : decode cX5_along 33 = .ok (.iload_n 2, 1) := by decide +kernel
theorem dX5_along_34 : decode cX5_along 34 = .ok (.iaload, 1) := by decide +kernel
theorem dX5_along_35 : decode cX5_along 35 = .ok (.if_icmp .ne 19, 3) := by decide +kernel
theorem dX5_along_38 : decode cX5_along 38 = .ok (.aload_n 0, 1) := by decide +kernel
theorem dX5_along_39 : decode cX5_along 39 = .ok (.getfield 30, 3) := by decide +kernel
theorem dX5_along_42 : decode cX5_along 42 = .ok (.iload_n 1, 1) := by decide +kernel
theorem dX5_along_43 : decode cX5_along 43 = .ok (.iaload, 1) := by decide +kernel
theorem dX5_along_44 : decode cX5_along 44 = .ok (.aload_n 0, 1) := by decide +kernel
theorem dX5_along_45 : decode cX5_along 45 = .ok (.getfield 30, 3) := by decide +kernel
theorem dX5_along_48 : decode cX5_along 48 = .ok (.iload_n 2, 1) := by decide +kernel
theorem dX5_along_49 : decode cX5_along 49 = .ok (.iaload, 1) := by decide +kernel
theorem dX5_along_50 : decode cX5_along 50 = .ok (.isub, 1) := by decide +kernel
theorem dX5_along_51 : decode cX5_along 51 = .ok (.goto 5, 3) := by decide +kernel
theorem dX5_along_54 : decode cX5_along 54 = .ok (.ldc 98, 2) := by decide +kernel
theorem dX5_along_56 : decode cX5_along 56 = .ok (.ireturn, 1) := by decide +kernel
theorem dX5_groups_0 : decode cX5_groups 0 = .ok (.iconst 0, 1) := by decide +kernel
theorem dX5_groups_1 : decode cX5_groups 1 = .ok (.istore_n 1, 1) := by decide +kernel
theorem dX5_groups_2 : decode cX5_groups 2 = .ok (.iconst 0, 1) := by decide +kernel
theorem dX5_groups_3 : decode cX5_groups 3 = .ok (.istore_n 2, 1) := by decide +kernel
theorem dX5_groups_4 : decode cX5_groups 4 = .ok (.iload_n 2, 1) := by decide +kernel
theorem dX5_groups_5 : decode cX5_groups 5 = .ok (.aload_n 0, 1) := by decide +kernel
theorem dX5_groups_6 : decode cX5_groups 6 = .ok (.getfield 7, 3) := by decide +kernel
theorem dX5_groups_9 : decode cX5_groups 9 = .ok (.if_icmp .ge 70, 3) := by decide +kernel
theorem dX5_groups_12 : decode cX5_groups 12 = .ok (.iconst 1, 1) := by decide +kernel
theorem dX5_groups_13 : decode cX5_groups 13 = .ok (.istore_n 3, 1) := by decide +kernel
theorem dX5_groups_14 : decode cX5_groups 14 = .ok (.iconst 0, 1) := by decide +kernel
theorem dX5_groups_15 : decode cX5_groups 15 = .ok (.istore 4, 2) := by decide +kernel
theorem dX5_groups_17 : decode cX5_groups 17 = .ok (.iload 4, 2) := by decide +kernel
theorem dX5_groups_19 : decode cX5_groups 19 = .ok (.iload_n 2, 1) := by decide +kernel
theorem dX5_groups_20 : decode cX5_groups 20 = .ok (.if_icmp .ge 41, 3) := by decide +kernel
theorem dX5_groups_23 : decode cX5_groups 23 = .ok (.iload_n 3, 1) := by decide +kernel
theorem dX5_groups_24 : decode cX5_groups 24 = .ok (.ifCond .eq 29, 3) := by decide +kernel
theorem dX5_groups_27 : decode cX5_groups 27 = .ok (.aload_n 0, 1) := by decide +kernel
theorem dX5_groups_28 : decode cX5_groups 28 = .ok (.getfield 27, 3) := by decide +kernel
theorem dX5_groups_31 : decode cX5_groups 31 = .ok (.bipush 40, 2) := by decide +kernel
theorem dX5_groups_33 : decode cX5_groups 33 = .ok (.iload_n 2, 1) := by decide +kernel
theorem dX5_groups_34 : decode cX5_groups 34 = .ok (.iadd, 1) := by decide +kernel
theorem dX5_groups_35 : decode cX5_groups 35 = .ok (.iaload, 1) := by decide +kernel
theorem dX5_groups_36 : decode cX5_groups 36 = .ok (.aload_n 0, 1) := by decide +kernel
theorem dX5_groups_37 : decode cX5_groups 37 = .ok (.getfield 27, 3) := by decide +kernel
theorem dX5_groups_40 : decode cX5_groups 40 = .ok (.bipush 40, 2) := by decide +kernel
theorem dX5_groups_42 : decode cX5_groups 42 = .ok (.iload 4, 2) := by decide +kernel
theorem dX5_groups_44 : decode cX5_groups 44 = .ok (.iadd, 1) := by decide +kernel
theorem dX5_groups_45 : decode cX5_groups 45 = .ok (.iaload, 1) := by decide +kernel
theorem dX5_groups_46 : decode cX5_groups 46 = .ok (.if_icmp .eq 7, 3) := by decide +kernel
theorem dX5_groups_49 : decode cX5_groups 49 = .ok (.iconst 1, 1) := by decide +kernel
theorem dX5_groups_50 : decode cX5_groups 50 = .ok (.goto 4, 3) := by decide +kernel
theorem dX5_groups_53 : decode cX5_groups 53 = .ok (.iconst 0, 1) := by decide +kernel
theorem dX5_groups_54 : decode cX5_groups 54 = .ok (.istore_n 3, 1) := by decide +kernel
theorem dX5_groups_55 : decode cX5_groups 55 = .ok (.iinc 4 1, 3) := by decide +kernel
theorem dX5_groups_58 : decode cX5_groups 58 = .ok (.goto (-41), 3) := by decide +kernel
theorem dX5_groups_61 : decode cX5_groups 61 = .ok (.iload_n 1, 1) := by decide +kernel
theorem dX5_groups_62 : decode cX5_groups 62 = .ok (.iload_n 3, 1) := by decide +kernel
theorem dX5_groups_63 : decode cX5_groups 63 = .ok (.ifCond .eq 7, 3) := by decide +kernel
theorem dX5_groups_66 : decode cX5_groups 66 = .ok (.iconst 1, 1) := by decide +kernel
theorem dX5_groups_67 : decode cX5_groups 67 = .ok (.goto 4, 3) := by decide +kernel
theorem dX5_groups_70 : decode cX5_groups 70 = .ok (.iconst 0, 1) := by decide +kernel
theorem dX5_groups_71 : decode cX5_groups 71 = .ok (.iadd, 1) := by decide +kernel
theorem dX5_groups_72 : decode cX5_groups 72 = .ok (.istore_n 1, 1) := by decide +kernel
theorem dX5_groups_73 : decode cX5_groups 73 = .ok (.iinc 2 1, 3) := by decide +kernel
theorem dX5_groups_76 : decode cX5_groups 76 = .ok (.goto (-72), 3) := by decide +kernel
theorem dX5_groups_79 : decode cX5_groups 79 = .ok (.iload_n 1, 1) := by decide +kernel
theorem dX5_groups_80 : decode cX5_groups 80 = .ok (.ireturn, 1) := by decide +kernel
set_option maxRecDepth 20000 in
theorem ggX5_take_X5_isAcross : GoodIn wsX5_take wsX5_isAcross := goodIn_r _ [7, 8, 17, 18, 19, 20, 21, 22, 23, 24, 25, 26, 27, 28, 29, 30, 31, 32, 33, 34, 35, 36, 37, 38, 39, 40] (by decide +kernel) (by decide +kernel)
set_option maxRecDepth 20000 in
theorem gX5_take_X5_isAcross : GoodIn wsX5_take (wsV RX5 91 RX5 yX5_isAcross wsX5_isAcross) := goodIn_app (goodIn_of _ (by decide +kernel)) ggX5_take_X5_isAcross
set_option maxRecDepth 20000 in
theorem ggX5_take_X5_acrossOf : GoodIn wsX5_take wsX5_acrossOf := goodIn_r _ [12, 13, 17, 18, 19, 20, 21, 22, 23, 24, 25, 26, 27, 28, 29, 30, 31, 32, 33, 34, 35, 36, 37, 38, 39, 40] (by decide +kernel) (by decide +kernel)
set_option maxRecDepth 20000 in
theorem gX5_take_X5_acrossOf : GoodIn wsX5_take (wsV RX5 94 RX5 yX5_acrossOf wsX5_acrossOf) := goodIn_app (goodIn_of _ (by decide +kernel)) ggX5_take_X5_acrossOf
set_option maxRecDepth 20000 in
theorem ggX5_take_X5_in : GoodIn wsX5_take wsX5_in := goodIn_r _ [16] (by decide +kernel) (by decide +kernel)
set_option maxRecDepth 20000 in
theorem gX5_take_X5_in : GoodIn wsX5_take (va_wsS RX5 75 yX5_in wsX5_in) := goodIn_app (goodIn_of _ (by decide +kernel)) ggX5_take_X5_in
theorem dX5_take_0 : decode cX5_take 0 = .ok (.iconst 0, 1) := by decide +kernel
theorem dX5_take_1 : decode cX5_take 1 = .ok (.istore_n 1, 1) := by decide +kernel
theorem dX5_take_2 : decode cX5_take 2 = .ok (.iload_n 1, 1) := by decide +kernel
theorem dX5_take_3 : decode cX5_take 3 = .ok (.aload_n 0, 1) := by decide +kernel
theorem dX5_take_4 : decode cX5_take 4 = .ok (.getfield 7, 3) := by decide +kernel
theorem dX5_take_7 : decode cX5_take 7 = .ok (.if_icmp .ge 37, 3) := by decide +kernel
theorem dX5_take_10 : decode cX5_take 10 = .ok (.aload_n 0, 1) := by decide +kernel
theorem dX5_take_11 : decode cX5_take 11 = .ok (.iload_n 1, 1) := by decide +kernel
theorem dX5_take_12 : decode cX5_take 12 = .ok (.invokevirtual 91, 3) := by decide +kernel
theorem dX5_take_15 : decode cX5_take 15 = .ok (.ifCond .eq 20, 3) := by decide +kernel
theorem dX5_take_18 : decode cX5_take 18 = .ok (.aload_n 0, 1) := by decide +kernel
theorem dX5_take_19 : decode cX5_take 19 = .ok (.iload_n 1, 1) := by decide +kernel
theorem dX5_take_20 : decode cX5_take 20 = .ok (.invokevirtual 94, 3) := by decide +kernel
theorem dX5_take_23 : decode cX5_take 23 = .ok (.sipush (-2000), 3) := by decide +kernel
theorem dX5_take_26 : decode cX5_take 26 = .ok (.sipush 2000, 3) := by decide +kernel
theorem dX5_take_29 : decode cX5_take 29 = .ok (.invokestatic 75, 3) := by decide +kernel
theorem dX5_take_32 : decode cX5_take 32 = .ok (.ifCond .ne 6, 3) := by decide +kernel
theorem dX5_take_35 : decode cX5_take 35 = .ok (.bipush (-5), 2) := by decide +kernel
theorem dX5_take_37 : decode cX5_take 37 = .ok (.ireturn, 1) := by decide +kernel
theorem dX5_take_38 : decode cX5_take 38 = .ok (.iinc 1 1, 3) := by decide +kernel
theorem dX5_take_41 : decode cX5_take 41 = .ok (.goto (-39), 3) := by decide +kernel
theorem dX5_take_44 : decode cX5_take 44 = .ok (.iconst 0, 1) := by decide +kernel
theorem dX5_take_45 : decode cX5_take 45 = .ok (.istore_n 1, 1) := by decide +kernel
theorem dX5_take_46 : decode cX5_take 46 = .ok (.iload_n 1, 1) := by decide +kernel
theorem dX5_take_47 : decode cX5_take 47 = .ok (.aload_n 0, 1) := by decide +kernel
theorem dX5_take_48 : decode cX5_take 48 = .ok (.getfield 7, 3) := by decide +kernel
theorem dX5_take_51 : decode cX5_take 51 = .ok (.if_icmp .ge 20, 3) := by decide +kernel
theorem dX5_take_54 : decode cX5_take 54 = .ok (.aload_n 0, 1) := by decide +kernel
theorem dX5_take_55 : decode cX5_take 55 = .ok (.getfield 33, 3) := by decide +kernel
theorem dX5_take_58 : decode cX5_take 58 = .ok (.iload_n 1, 1) := by decide +kernel
theorem dX5_take_59 : decode cX5_take 59 = .ok (.aload_n 0, 1) := by decide +kernel
theorem dX5_take_60 : decode cX5_take 60 = .ok (.iload_n 1, 1) := by decide +kernel
theorem dX5_take_61 : decode cX5_take 61 = .ok (.invokevirtual 94, 3) := by decide +kernel
theorem dX5_take_64 : decode cX5_take 64 = .ok (.iastore, 1) := by decide +kernel
theorem dX5_take_65 : decode cX5_take 65 = .ok (.iinc 1 1, 3) := by decide +kernel
theorem dX5_take_68 : decode cX5_take 68 = .ok (.goto (-22), 3) := by decide +kernel
theorem dX5_take_71 : decode cX5_take 71 = .ok (.iconst 1, 1) := by decide +kernel
theorem dX5_take_72 : decode cX5_take 72 = .ok (.ireturn, 1) := by decide +kernel
set_option maxRecDepth 20000 in
theorem ggX5_clear_X5_begin : GoodIn wsX5_clear wsX5_begin := goodIn_r _ [6, 1, 7, 8, 9, 10, 11, 12, 13, 14, 15, 16, 17, 18, 19, 20, 21, 22, 23, 24, 25, 26, 27, 28, 29, 30, 31, 32] (by decide +kernel) (by decide +kernel)
set_option maxRecDepth 20000 in
theorem gX5_clear_X5_begin : GoodIn wsX5_clear (wsV RX5 72 RX5 yX5_begin wsX5_begin) := goodIn_app (goodIn_of _ (by decide +kernel)) ggX5_clear_X5_begin
theorem dX5_clear_0 : decode cX5_clear 0 = .ok (.aload_n 0, 1) := by decide +kernel
theorem dX5_clear_1 : decode cX5_clear 1 = .ok (.getfield 79, 3) := by decide +kernel
theorem dX5_clear_4 : decode cX5_clear 4 = .ok (.istore_n 1, 1) := by decide +kernel
theorem dX5_clear_5 : decode cX5_clear 5 = .ok (.aload_n 0, 1) := by decide +kernel
theorem dX5_clear_6 : decode cX5_clear 6 = .ok (.invokevirtual 72, 3) := by decide +kernel
theorem dX5_clear_9 : decode cX5_clear 9 = .ok (.iload_n 1, 1) := by decide +kernel
theorem dX5_clear_10 : decode cX5_clear 10 = .ok (.ireturn, 1) := by decide +kernel
set_option maxRecDepth 20000 in
theorem ggX5_areLawful_X5_size : GoodIn wsX5_areLawful wsX5_size := goodIn_r _ [6] (by decide +kernel) (by decide +kernel)
set_option maxRecDepth 20000 in
theorem gX5_areLawful_X5_size : GoodIn wsX5_areLawful (va_wsS RX5 99 yX5_size wsX5_size) := goodIn_app (goodIn_of _ (by decide +kernel)) ggX5_areLawful_X5_size
theorem dX5_areLawful_0 : decode cX5_areLawful 0 = .ok (.iconst 1, 1) := by decide +kernel
theorem dX5_areLawful_1 : decode cX5_areLawful 1 = .ok (.istore_n 3, 1) := by decide +kernel
theorem dX5_areLawful_2 : decode cX5_areLawful 2 = .ok (.iconst 0, 1) := by decide +kernel
theorem dX5_areLawful_3 : decode cX5_areLawful 3 = .ok (.istore 4, 2) := by decide +kernel
theorem dX5_areLawful_5 : decode cX5_areLawful 5 = .ok (.iload 4, 2) := by decide +kernel
theorem dX5_areLawful_7 : decode cX5_areLawful 7 = .ok (.aload_n 0, 1) := by decide +kernel
theorem dX5_areLawful_8 : decode cX5_areLawful 8 = .ok (.getfield 7, 3) := by decide +kernel
theorem dX5_areLawful_11 : decode cX5_areLawful 11 = .ok (.if_icmp .ge 100, 3) := by decide +kernel
theorem dX5_areLawful_14 : decode cX5_areLawful 14 = .ok (.iload_n 3, 1) := by decide +kernel
theorem dX5_areLawful_15 : decode cX5_areLawful 15 = .ok (.ifCond .eq 36, 3) := by decide +kernel
theorem dX5_areLawful_18 : decode cX5_areLawful 18 = .ok (.iload 4, 2) := by decide +kernel
theorem dX5_areLawful_20 : decode cX5_areLawful 20 = .ok (.ifCond .eq 27, 3) := by decide +kernel
theorem dX5_areLawful_23 : decode cX5_areLawful 23 = .ok (.aload_n 0, 1) := by decide +kernel
theorem dX5_areLawful_24 : decode cX5_areLawful 24 = .ok (.getfield 36, 3) := by decide +kernel
theorem dX5_areLawful_27 : decode cX5_areLawful 27 = .ok (.iload 4, 2) := by decide +kernel
theorem dX5_areLawful_29 : decode cX5_areLawful 29 = .ok (.iaload, 1) := by decide +kernel
theorem dX5_areLawful_30 : decode cX5_areLawful 30 = .ok (.aload_n 0, 1) := by decide +kernel
theorem dX5_areLawful_31 : decode cX5_areLawful 31 = .ok (.getfield 36, 3) := by decide +kernel
theorem dX5_areLawful_34 : decode cX5_areLawful 34 = .ok (.iload 4, 2) := by decide +kernel
theorem dX5_areLawful_36 : decode cX5_areLawful 36 = .ok (.iconst 1, 1) := by decide +kernel
theorem dX5_areLawful_37 : decode cX5_areLawful 37 = .ok (.isub, 1) := by decide +kernel
theorem dX5_areLawful_38 : decode cX5_areLawful 38 = .ok (.iaload, 1) := by decide +kernel
theorem dX5_areLawful_39 : decode cX5_areLawful 39 = .ok (.isub, 1) := by decide +kernel
theorem dX5_areLawful_40 : decode cX5_areLawful 40 = .ok (.invokestatic 99, 3) := by decide +kernel
theorem dX5_areLawful_43 : decode cX5_areLawful 43 = .ok (.iload_n 1, 1) := by decide +kernel
theorem dX5_areLawful_44 : decode cX5_areLawful 44 = .ok (.if_icmp .gt 7, 3) := by decide +kernel
theorem dX5_areLawful_47 : decode cX5_areLawful 47 = .ok (.iconst 1, 1) := by decide +kernel
theorem dX5_areLawful_48 : decode cX5_areLawful 48 = .ok (.goto 4, 3) := by decide +kernel
theorem dX5_areLawful_51 : decode cX5_areLawful 51 = .ok (.iconst 0, 1) := by decide +kernel
theorem dX5_areLawful_52 : decode cX5_areLawful 52 = .ok (.istore_n 3, 1) := by decide +kernel
theorem dX5_areLawful_53 : decode cX5_areLawful 53 = .ok (.iload_n 3, 1) := by decide +kernel
theorem dX5_areLawful_54 : decode cX5_areLawful 54 = .ok (.ifCond .eq 49, 3) := by decide +kernel
theorem dX5_areLawful_57 : decode cX5_areLawful 57 = .ok (.iload 4, 2) := by decide +kernel
theorem dX5_areLawful_59 : decode cX5_areLawful 59 = .ok (.iconst 2, 1) := by decide +kernel
theorem dX5_areLawful_60 : decode cX5_areLawful 60 = .ok (.if_icmp .lt 39, 3) := by decide +kernel
theorem dX5_areLawful_63 : decode cX5_areLawful 63 = .ok (.iconst 2, 1) := by decide +kernel
theorem dX5_areLawful_64 : decode cX5_areLawful 64 = .ok (.aload_n 0, 1) := by decide +kernel
theorem dX5_areLawful_65 : decode cX5_areLawful 65 = .ok (.getfield 36, 3) := by decide +kernel
theorem dX5_areLawful_68 : decode cX5_areLawful 68 = .ok (.iload 4, 2) := by decide +kernel
theorem dX5_areLawful_70 : decode cX5_areLawful 70 = .ok (.iconst 1, 1) := by decide +kernel
theorem dX5_areLawful_71 : decode cX5_areLawful 71 = .ok (.isub, 1) := by decide +kernel
theorem dX5_areLawful_72 : decode cX5_areLawful 72 = .ok (.iaload, 1) := by decide +kernel
theorem dX5_areLawful_73 : decode cX5_areLawful 73 = .ok (.imul, 1) := by decide +kernel
theorem dX5_areLawful_74 : decode cX5_areLawful 74 = .ok (.aload_n 0, 1) := by decide +kernel
theorem dX5_areLawful_75 : decode cX5_areLawful 75 = .ok (.getfield 36, 3) := by decide +kernel
theorem dX5_areLawful_78 : decode cX5_areLawful 78 = .ok (.iload 4, 2) := by decide +kernel
theorem dX5_areLawful_80 : decode cX5_areLawful 80 = .ok (.iaload, 1) := by decide +kernel
theorem dX5_areLawful_81 : decode cX5_areLawful 81 = .ok (.isub, 1) := by decide +kernel
theorem dX5_areLawful_82 : decode cX5_areLawful 82 = .ok (.aload_n 0, 1) := by decide +kernel
theorem dX5_areLawful_83 : decode cX5_areLawful 83 = .ok (.getfield 36, 3) := by decide +kernel
theorem dX5_areLawful_86 : decode cX5_areLawful 86 = .ok (.iload 4, 2) := by decide +kernel
theorem dX5_areLawful_88 : decode cX5_areLawful 88 = .ok (.iconst 2, 1) := by decide +kernel
theorem dX5_areLawful_89 : decode cX5_areLawful 89 = .ok (.isub, 1) := by decide +kernel
theorem dX5_areLawful_90 : decode cX5_areLawful 90 = .ok (.iaload, 1) := by decide +kernel
theorem dX5_areLawful_91 : decode cX5_areLawful 91 = .ok (.isub, 1) := by decide +kernel
theorem dX5_areLawful_92 : decode cX5_areLawful 92 = .ok (.invokestatic 99, 3) := by decide +kernel
theorem dX5_areLawful_95 : decode cX5_areLawful 95 = .ok (.iload_n 2, 1) := by decide +kernel
theorem dX5_areLawful_96 : decode cX5_areLawful 96 = .ok (.if_icmp .gt 7, 3) := by decide +kernel
theorem dX5_areLawful_99 : decode cX5_areLawful 99 = .ok (.iconst 1, 1) := by decide +kernel
theorem dX5_areLawful_100 : decode cX5_areLawful 100 = .ok (.goto 4, 3) := by decide +kernel
theorem dX5_areLawful_103 : decode cX5_areLawful 103 = .ok (.iconst 0, 1) := by decide +kernel
theorem dX5_areLawful_104 : decode cX5_areLawful 104 = .ok (.istore_n 3, 1) := by decide +kernel
theorem dX5_areLawful_105 : decode cX5_areLawful 105 = .ok (.iinc 4 1, 3) := by decide +kernel
theorem dX5_areLawful_108 : decode cX5_areLawful 108 = .ok (.goto (-103), 3) := by decide +kernel
theorem dX5_areLawful_111 : decode cX5_areLawful 111 = .ok (.iload_n 3, 1) := by decide +kernel
theorem dX5_areLawful_112 : decode cX5_areLawful 112 = .ok (.ireturn, 1) := by decide +kernel
set_option maxRecDepth 20000 in
theorem ggX5_laws_X5_in : GoodIn wsX5_laws wsX5_in := goodIn_r _ [6] (by decide +kernel) (by decide +kernel)
set_option maxRecDepth 20000 in
theorem gX5_laws_X5_in : GoodIn wsX5_laws (va_wsS RX5 75 yX5_in wsX5_in) := goodIn_app (goodIn_of _ (by decide +kernel)) ggX5_laws_X5_in
set_option maxRecDepth 20000 in
theorem ggX5_laws_X5_areLawful : GoodIn wsX5_laws wsX5_areLawful := goodIn_r _ [10, 11, 12, 13, 14, 5, 15, 16, 17, 18, 19, 20, 21, 22, 23, 24, 25, 26, 27, 28, 29, 30, 31, 32, 33, 34, 35, 36, 37, 38, 39] (by decide +kernel) (by decide +kernel)
set_option maxRecDepth 20000 in
theorem gX5_laws_X5_areLawful : GoodIn wsX5_laws (wsV RX5 102 RX5 yX5_areLawful wsX5_areLawful) := goodIn_app (goodIn_of _ (by decide +kernel)) ggX5_laws_X5_areLawful
theorem dX5_laws_0 : decode cX5_laws 0 = .ok (.iload_n 1, 1) := by decide +kernel
theorem dX5_laws_1 : decode cX5_laws 1 = .ok (.iconst 0, 1) := by decide +kernel
theorem dX5_laws_2 : decode cX5_laws 2 = .ok (.bipush 20, 2) := by decide +kernel
theorem dX5_laws_4 : decode cX5_laws 4 = .ok (.invokestatic 75, 3) := by decide +kernel
theorem dX5_laws_7 : decode cX5_laws 7 = .ok (.ifCond .eq 13, 3) := by decide +kernel
theorem dX5_laws_10 : decode cX5_laws 10 = .ok (.iload_n 2, 1) := by decide +kernel
theorem dX5_laws_11 : decode cX5_laws 11 = .ok (.iconst 0, 1) := by decide +kernel
theorem dX5_laws_12 : decode cX5_laws 12 = .ok (.bipush 40, 2) := by decide +kernel
theorem dX5_laws_14 : decode cX5_laws 14 = .ok (.invokestatic 75, 3) := by decide +kernel
theorem dX5_laws_17 : decode cX5_laws 17 = .ok (.ifCond .ne 6, 3) := by decide +kernel
theorem dX5_laws_20 : decode cX5_laws 20 = .ok (.bipush (-2), 2) := by decide +kernel
theorem dX5_laws_22 : decode cX5_laws 22 = .ok (.ireturn, 1) := by decide +kernel
theorem dX5_laws_23 : decode cX5_laws 23 = .ok (.aload_n 0, 1) := by decide +kernel
theorem dX5_laws_24 : decode cX5_laws 24 = .ok (.iload_n 1, 1) := by decide +kernel
theorem dX5_laws_25 : decode cX5_laws 25 = .ok (.iload_n 2, 1) := by decide +kernel
theorem dX5_laws_26 : decode cX5_laws 26 = .ok (.invokevirtual 102, 3) := by decide +kernel
theorem dX5_laws_29 : decode cX5_laws 29 = .ok (.ifCond .ne 6, 3) := by decide +kernel
theorem dX5_laws_32 : decode cX5_laws 32 = .ok (.bipush (-5), 2) := by decide +kernel
theorem dX5_laws_34 : decode cX5_laws 34 = .ok (.ireturn, 1) := by decide +kernel
theorem dX5_laws_35 : decode cX5_laws 35 = .ok (.aload_n 0, 1) := by decide +kernel
theorem dX5_laws_36 : decode cX5_laws 36 = .ok (.iload_n 1, 1) := by decide +kernel
theorem dX5_laws_37 : decode cX5_laws 37 = .ok (.putfield 39, 3) := by decide +kernel
theorem dX5_laws_40 : decode cX5_laws 40 = .ok (.aload_n 0, 1) := by decide +kernel
theorem dX5_laws_41 : decode cX5_laws 41 = .ok (.iload_n 2, 1) := by decide +kernel
theorem dX5_laws_42 : decode cX5_laws 42 = .ok (.putfield 42, 3) := by decide +kernel
theorem dX5_laws_45 : decode cX5_laws 45 = .ok (.iconst 1, 1) := by decide +kernel
theorem dX5_laws_46 : decode cX5_laws 46 = .ok (.ireturn, 1) := by decide +kernel
set_option maxRecDepth 20000 in
theorem ggX5_spread_X5_in : GoodIn wsX5_spread wsX5_in := goodIn_r _ [6] (by decide +kernel) (by decide +kernel)
set_option maxRecDepth 20000 in
theorem gX5_spread_X5_in : GoodIn wsX5_spread (va_wsS RX5 75 yX5_in wsX5_in) := goodIn_app (goodIn_of _ (by decide +kernel)) ggX5_spread_X5_in
theorem dX5_spread_0 : decode cX5_spread 0 = .ok (.iload_n 1, 1) := by decide +kernel
theorem dX5_spread_1 : decode cX5_spread 1 = .ok (.iconst 1, 1) := by decide +kernel
theorem dX5_spread_2 : decode cX5_spread 2 = .ok (.bipush 20, 2) := by decide +kernel
theorem dX5_spread_4 : decode cX5_spread 4 = .ok (.invokestatic 75, 3) := by decide +kernel
theorem dX5_spread_7 : decode cX5_spread 7 = .ok (.ifCond .eq 13, 3) := by decide +kernel
theorem dX5_spread_10 : decode cX5_spread 10 = .ok (.iload_n 2, 1) := by decide +kernel
theorem dX5_spread_11 : decode cX5_spread 11 = .ok (.bipush (-5), 2) := by decide +kernel
theorem dX5_spread_13 : decode cX5_spread 13 = .ok (.iconst 5, 1) := by decide +kernel
theorem dX5_spread_14 : decode cX5_spread 14 = .ok (.invokestatic 75, 3) := by decide +kernel
theorem dX5_spread_17 : decode cX5_spread 17 = .ok (.ifCond .ne 6, 3) := by decide +kernel
theorem dX5_spread_20 : decode cX5_spread 20 = .ok (.bipush (-2), 2) := by decide +kernel
theorem dX5_spread_22 : decode cX5_spread 22 = .ok (.ireturn, 1) := by decide +kernel
theorem dX5_spread_23 : decode cX5_spread 23 = .ok (.aload_n 0, 1) := by decide +kernel
theorem dX5_spread_24 : decode cX5_spread 24 = .ok (.iload_n 1, 1) := by decide +kernel
theorem dX5_spread_25 : decode cX5_spread 25 = .ok (.putfield 45, 3) := by decide +kernel
theorem dX5_spread_28 : decode cX5_spread 28 = .ok (.aload_n 0, 1) := by decide +kernel
theorem dX5_spread_29 : decode cX5_spread 29 = .ok (.iload_n 2, 1) := by decide +kernel
theorem dX5_spread_30 : decode cX5_spread 30 = .ok (.putfield 106, 3) := by decide +kernel
theorem dX5_spread_33 : decode cX5_spread 33 = .ok (.iconst 1, 1) := by decide +kernel
theorem dX5_spread_34 : decode cX5_spread 34 = .ok (.ireturn, 1) := by decide +kernel
set_option maxRecDepth 20000 in
theorem ggX5_base_X5_isPlace : GoodIn wsX5_base wsX5_isPlace := goodIn_r _ [6, 7, 8, 9, 5, 10, 11, 12, 13, 14, 15, 16, 17, 18, 19, 20, 21, 22, 23, 24, 25, 26, 27, 28, 29, 30, 31, 32, 33, 34] (by decide +kernel) (by decide +kernel)
