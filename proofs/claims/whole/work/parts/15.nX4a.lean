set_option maxRecDepth 20000 in
theorem ggX4_init_X0_init : GoodIn wsX4_init wsX0_init := goodIn_r _ [22, 23, 2, 3, 24, 25, 26, 27, 28, 29, 30, 31, 32, 33, 34, 6, 35, 36, 37, 69, 70, 71, 72, 73, 74, 75, 76] (by decide +kernel) (by decide +kernel)
set_option maxRecDepth 20000 in
theorem gX4_init_X0_init : GoodIn wsX4_init (wsX0_init) := ggX4_init_X0_init
set_option maxRecDepth 20000 in
theorem ggX4_init_X2_init : GoodIn wsX4_init wsX2_init := goodIn_r _ [40, 41, 2, 3, 24, 42, 43, 44, 45, 46, 47, 48, 81, 82, 83, 84, 85, 86, 87, 88] (by decide +kernel) (by decide +kernel)
set_option maxRecDepth 20000 in
theorem gX4_init_X2_init : GoodIn wsX4_init (wsX2_init) := ggX4_init_X2_init
set_option maxRecDepth 20000 in
theorem ggX4_init_X3_init : GoodIn wsX4_init wsX3_init := goodIn_r _ [51, 52, 2, 3, 24, 53, 54, 55, 56, 57, 58, 89, 90, 91, 92, 93, 94, 95] (by decide +kernel) (by decide +kernel)
set_option maxRecDepth 20000 in
theorem gX4_init_X3_init : GoodIn wsX4_init (wsX3_init) := ggX4_init_X3_init
set_option maxRecDepth 20000 in
theorem ggX4_init_X1_init : GoodIn wsX4_init wsX1_init := goodIn_r _ [61, 62, 2, 3, 24, 63, 64, 65, 66, 67, 68, 96, 97, 98, 99] (by decide +kernel) (by decide +kernel)
set_option maxRecDepth 20000 in
theorem gX4_init_X1_init : GoodIn wsX4_init (wsX1_init) := ggX4_init_X1_init
theorem dX4_init_0 : decode cX4_init 0 = .ok (.aload_n 0, 1) := by decide +kernel
theorem dX4_init_1 : decode cX4_init 1 = .ok (.invokespecial 1, 3) := by decide +kernel
theorem dX4_init_4 : decode cX4_init 4 = .ok (.aload_n 0, 1) := by decide +kernel
theorem dX4_init_5 : decode cX4_init 5 = .ok (.new 7, 3) := by decide +kernel
theorem dX4_init_8 : decode cX4_init 8 = .ok (.dup, 1) := by decide +kernel
theorem dX4_init_9 : decode cX4_init 9 = .ok (.invokespecial 9, 3) := by decide +kernel
theorem dX4_init_12 : decode cX4_init 12 = .ok (.putfield 10, 3) := by decide +kernel
theorem dX4_init_15 : decode cX4_init 15 = .ok (.aload_n 0, 1) := by decide +kernel
theorem dX4_init_16 : decode cX4_init 16 = .ok (.new 16, 3) := by decide +kernel
theorem dX4_init_19 : decode cX4_init 19 = .ok (.dup, 1) := by decide +kernel
theorem dX4_init_20 : decode cX4_init 20 = .ok (.invokespecial 18, 3) := by decide +kernel
theorem dX4_init_23 : decode cX4_init 23 = .ok (.putfield 19, 3) := by decide +kernel
theorem dX4_init_26 : decode cX4_init 26 = .ok (.aload_n 0, 1) := by decide +kernel
theorem dX4_init_27 : decode cX4_init 27 = .ok (.new 23, 3) := by decide +kernel
theorem dX4_init_30 : decode cX4_init 30 = .ok (.dup, 1) := by decide +kernel
theorem dX4_init_31 : decode cX4_init 31 = .ok (.aload_n 0, 1) := by decide +kernel
theorem dX4_init_32 : decode cX4_init 32 = .ok (.getfield 19, 3) := by decide +kernel
theorem dX4_init_35 : decode cX4_init 35 = .ok (.invokespecial 25, 3) := by decide +kernel
theorem dX4_init_38 : decode cX4_init 38 = .ok (.putfield 28, 3) := by decide +kernel
theorem dX4_init_41 : decode cX4_init 41 = .ok (.aload_n 0, 1) := by decide +kernel
theorem dX4_init_42 : decode cX4_init 42 = .ok (.new 32, 3) := by decide +kernel
theorem dX4_init_45 : decode cX4_init 45 = .ok (.dup, 1) := by decide +kernel
theorem dX4_init_46 : decode cX4_init 46 = .ok (.invokespecial 34, 3) := by decide +kernel
theorem dX4_init_49 : decode cX4_init 49 = .ok (.putfield 35, 3) := by decide +kernel
theorem dX4_init_52 : decode cX4_init 52 = .ok (.return_, 1) := by decide +kernel
set_option maxRecDepth 20000 in
theorem ggX4_sheet_X4_within : GoodIn wsX4_sheet wsX4_within := goodIn_r _ [7] (by decide +kernel) (by decide +kernel)
set_option maxRecDepth 20000 in
theorem gX4_sheet_X4_within : GoodIn wsX4_sheet (va_wsS RX4 39 yX4_within wsX4_within) := goodIn_app (goodIn_of _ (by decide +kernel)) ggX4_sheet_X4_within
set_option maxRecDepth 20000 in
theorem ggX4_sheet_X2_places : GoodIn wsX4_sheet wsX2_places := goodIn_r _ [12, 13, 43, 44, 45, 46, 47, 48, 49, 50] (by decide +kernel) (by decide +kernel)
set_option maxRecDepth 20000 in
theorem gX4_sheet_X2_places : GoodIn wsX4_sheet (wsV RX4 43 RX2 yX2_places wsX2_places) := goodIn_app (goodIn_of _ (by decide +kernel)) ggX4_sheet_X2_places
set_option maxRecDepth 20000 in
theorem ggX4_sheet_X0_forget : GoodIn wsX4_sheet wsX0_forget := goodIn_r _ [18, 19, 20, 21, 22, 51, 52, 53, 54, 55, 56, 57, 58] (by decide +kernel) (by decide +kernel)
set_option maxRecDepth 20000 in
theorem gX4_sheet_X0_forget : GoodIn wsX4_sheet (wsV RX4 47 RX0 yX0_forget wsX0_forget) := goodIn_app (goodIn_of _ (by decide +kernel)) ggX4_sheet_X0_forget
set_option maxRecDepth 20000 in
theorem ggX4_sheet_X3_forget : GoodIn wsX4_sheet wsX3_forget := goodIn_r _ [27, 28, 59, 60, 61, 62, 63, 64, 65] (by decide +kernel) (by decide +kernel)
set_option maxRecDepth 20000 in
theorem gX4_sheet_X3_forget : GoodIn wsX4_sheet (wsV RX4 50 RX3 yX3_forget wsX3_forget) := goodIn_app (goodIn_of _ (by decide +kernel)) ggX4_sheet_X3_forget
set_option maxRecDepth 20000 in
theorem ggX4_sheet_X2_renew : GoodIn wsX4_sheet wsX2_renew := goodIn_r _ [32, 13, 33, 34, 35, 36, 37, 38, 43, 44, 45, 46, 47, 48, 49, 50] (by decide +kernel) (by decide +kernel)
set_option maxRecDepth 20000 in
theorem gX4_sheet_X2_renew : GoodIn wsX4_sheet (wsV RX4 51 RX2 yX2_renew wsX2_renew) := goodIn_app (goodIn_of _ (by decide +kernel)) ggX4_sheet_X2_renew
theorem dX4_sheet_0 : decode cX4_sheet 0 = .ok (.iload_n 1, 1) := by decide +kernel
theorem dX4_sheet_1 : decode cX4_sheet 1 = .ok (.iconst 2, 1) := by decide +kernel
theorem dX4_sheet_2 : decode cX4_sheet 2 = .ok (.bipush 24, 2) := by decide +kernel
theorem dX4_sheet_4 : decode cX4_sheet 4 = .ok (.invokestatic 39, 3) := by decide +kernel
theorem dX4_sheet_7 : decode cX4_sheet 7 = .ok (.ifCond .ne 6, 3) := by decide +kernel
theorem dX4_sheet_10 : decode cX4_sheet 10 = .ok (.bipush (-2), 2) := by decide +kernel
theorem dX4_sheet_12 : decode cX4_sheet 12 = .ok (.ireturn, 1) := by decide +kernel
theorem dX4_sheet_13 : decode cX4_sheet 13 = .ok (.aload_n 0, 1) := by decide +kernel
theorem dX4_sheet_14 : decode cX4_sheet 14 = .ok (.getfield 19, 3) := by decide +kernel
theorem dX4_sheet_17 : decode cX4_sheet 17 = .ok (.invokevirtual 43, 3) := by decide +kernel
theorem dX4_sheet_20 : decode cX4_sheet 20 = .ok (.istore_n 2, 1) := by decide +kernel
theorem dX4_sheet_21 : decode cX4_sheet 21 = .ok (.aload_n 0, 1) := by decide +kernel
theorem dX4_sheet_22 : decode cX4_sheet 22 = .ok (.getfield 10, 3) := by decide +kernel
theorem dX4_sheet_25 : decode cX4_sheet 25 = .ok (.invokevirtual 47, 3) := by decide +kernel
theorem dX4_sheet_28 : decode cX4_sheet 28 = .ok (.aload_n 0, 1) := by decide +kernel
theorem dX4_sheet_29 : decode cX4_sheet 29 = .ok (.getfield 28, 3) := by decide +kernel
theorem dX4_sheet_32 : decode cX4_sheet 32 = .ok (.invokevirtual 50, 3) := by decide +kernel
theorem dX4_sheet_35 : decode cX4_sheet 35 = .ok (.aload_n 0, 1) := by decide +kernel
theorem dX4_sheet_36 : decode cX4_sheet 36 = .ok (.getfield 19, 3) := by decide +kernel
theorem dX4_sheet_39 : decode cX4_sheet 39 = .ok (.iload_n 1, 1) := by decide +kernel
theorem dX4_sheet_40 : decode cX4_sheet 40 = .ok (.invokevirtual 51, 3) := by decide +kernel
theorem dX4_sheet_43 : decode cX4_sheet 43 = .ok (.iload_n 2, 1) := by decide +kernel
theorem dX4_sheet_44 : decode cX4_sheet 44 = .ok (.ireturn, 1) := by decide +kernel
set_option maxRecDepth 20000 in
theorem ggX4_read_X4_isPlace : GoodIn wsX4_read wsX4_isPlace := goodIn_r _ [6, 7, 8, 9, 10, 11, 12, 13, 14, 15, 5, 16, 44, 45, 46, 47, 48, 49, 50, 51, 52, 53, 54, 55] (by decide +kernel) (by decide +kernel)
set_option maxRecDepth 20000 in
theorem gX4_read_X4_isPlace : GoodIn wsX4_read (wsV RX4 55 RX4 yX4_isPlace wsX4_isPlace) := goodIn_app (goodIn_of _ (by decide +kernel)) ggX4_read_X4_isPlace
set_option maxRecDepth 20000 in
theorem ggX4_read_X4_isTime : GoodIn wsX4_read wsX4_isTime := goodIn_r _ [19, 14, 15, 5, 16] (by decide +kernel) (by decide +kernel)
set_option maxRecDepth 20000 in
theorem gX4_read_X4_isTime : GoodIn wsX4_read (va_wsS RX4 59 yX4_isTime wsX4_isTime) := goodIn_app (goodIn_of _ (by decide +kernel)) ggX4_read_X4_isTime
set_option maxRecDepth 20000 in
theorem ggX4_read_X4_within : GoodIn wsX4_read wsX4_within := goodIn_r _ [16] (by decide +kernel) (by decide +kernel)
set_option maxRecDepth 20000 in
theorem gX4_read_X4_within : GoodIn wsX4_read (va_wsS RX4 39 yX4_within wsX4_within) := goodIn_app (goodIn_of _ (by decide +kernel)) ggX4_read_X4_within
set_option maxRecDepth 20000 in
theorem ggX4_read_X0_count : GoodIn wsX4_read wsX0_count := goodIn_r _ [24, 25, 56, 57, 58, 59, 60, 61, 62, 63] (by decide +kernel) (by decide +kernel)
set_option maxRecDepth 20000 in
theorem gX4_read_X0_count : GoodIn wsX4_read (wsV RX4 62 RX0 yX0_count wsX0_count) := goodIn_app (goodIn_of _ (by decide +kernel)) ggX4_read_X0_count
set_option maxRecDepth 20000 in
theorem ggX4_read_X0_add : GoodIn wsX4_read wsX0_add := goodIn_r _ [29, 30, 25, 31, 32, 33, 34, 35, 36, 23, 37, 38, 39, 40, 41, 42, 43, 56, 57, 58, 59, 60, 61, 62, 63] (by decide +kernel) (by decide +kernel)
set_option maxRecDepth 20000 in
theorem gX4_read_X0_add : GoodIn wsX4_read (wsV RX4 65 RX0 yX0_add wsX0_add) := goodIn_app (goodIn_of _ (by decide +kernel)) ggX4_read_X0_add
theorem dX4_read_0 : decode cX4_read 0 = .ok (.aload_n 0, 1) := by decide +kernel
theorem dX4_read_1 : decode cX4_read 1 = .ok (.iload_n 2, 1) := by decide +kernel
theorem dX4_read_2 : decode cX4_read 2 = .ok (.invokevirtual 55, 3) := by decide +kernel
theorem dX4_read_5 : decode cX4_read 5 = .ok (.ifCond .ne 5, 3) := by decide +kernel
theorem dX4_read_8 : decode cX4_read 8 = .ok (.iconst (-1), 1) := by decide +kernel
theorem dX4_read_9 : decode cX4_read 9 = .ok (.ireturn, 1) := by decide +kernel
theorem dX4_read_10 : decode cX4_read 10 = .ok (.iload_n 1, 1) := by decide +kernel
theorem dX4_read_11 : decode cX4_read 11 = .ok (.invokestatic 59, 3) := by decide +kernel
theorem dX4_read_14 : decode cX4_read 14 = .ok (.ifCond .eq 16, 3) := by decide +kernel
theorem dX4_read_17 : decode cX4_read 17 = .ok (.iload_n 3, 1) := by decide +kernel
theorem dX4_read_18 : decode cX4_read 18 = .ok (.sipush (-1000), 3) := by decide +kernel
theorem dX4_read_21 : decode cX4_read 21 = .ok (.sipush 1000, 3) := by decide +kernel
theorem dX4_read_24 : decode cX4_read 24 = .ok (.invokestatic 39, 3) := by decide +kernel
theorem dX4_read_27 : decode cX4_read 27 = .ok (.ifCond .ne 6, 3) := by decide +kernel
theorem dX4_read_30 : decode cX4_read 30 = .ok (.bipush (-2), 2) := by decide +kernel
theorem dX4_read_32 : decode cX4_read 32 = .ok (.ireturn, 1) := by decide +kernel
theorem dX4_read_33 : decode cX4_read 33 = .ok (.aload_n 0, 1) := by decide +kernel
theorem dX4_read_34 : decode cX4_read 34 = .ok (.getfield 10, 3) := by decide +kernel
theorem dX4_read_37 : decode cX4_read 37 = .ok (.invokevirtual 62, 3) := by decide +kernel
theorem dX4_read_40 : decode cX4_read 40 = .ok (.bipush 100, 2) := by decide +kernel
theorem dX4_read_42 : decode cX4_read 42 = .ok (.if_icmp .lt 6, 3) := by decide +kernel
theorem dX4_read_45 : decode cX4_read 45 = .ok (.bipush (-4), 2) := by decide +kernel
theorem dX4_read_47 : decode cX4_read 47 = .ok (.ireturn, 1) := by decide +kernel
theorem dX4_read_48 : decode cX4_read 48 = .ok (.aload_n 0, 1) := by decide +kernel
theorem dX4_read_49 : decode cX4_read 49 = .ok (.getfield 10, 3) := by decide +kernel
theorem dX4_read_52 : decode cX4_read 52 = .ok (.iload_n 1, 1) := by decide +kernel
theorem dX4_read_53 : decode cX4_read 53 = .ok (.iload_n 2, 1) := by decide +kernel
theorem dX4_read_54 : decode cX4_read 54 = .ok (.iload_n 3, 1) := by decide +kernel
theorem dX4_read_55 : decode cX4_read 55 = .ok (.invokevirtual 65, 3) := by decide +kernel
theorem dX4_read_58 : decode cX4_read 58 = .ok (.ifCond .eq 7, 3) := by decide +kernel
theorem dX4_read_61 : decode cX4_read 61 = .ok (.iconst 1, 1) := by decide +kernel
theorem dX4_read_62 : decode cX4_read 62 = .ok (.goto 4, 3) := by decide +kernel
theorem dX4_read_65 : decode cX4_read 65 = .ok (.iconst 0, 1) := by decide +kernel
theorem dX4_read_66 : decode cX4_read 66 = .ok (.ireturn, 1) := by decide +kernel
set_option maxRecDepth 20000 in
theorem ggX4_reading_X0_count : GoodIn wsX4_reading wsX0_count := goodIn_r _ [8, 9, 38, 39, 40, 41, 42, 43, 44, 45] (by decide +kernel) (by decide +kernel)
set_option maxRecDepth 20000 in
theorem gX4_reading_X0_count : GoodIn wsX4_reading (wsV RX4 62 RX0 yX0_count wsX0_count) := goodIn_app (goodIn_of _ (by decide +kernel)) ggX4_reading_X0_count
set_option maxRecDepth 20000 in
theorem ggX4_reading_X4_within : GoodIn wsX4_reading wsX4_within := goodIn_r _ [13] (by decide +kernel) (by decide +kernel)
set_option maxRecDepth 20000 in
theorem gX4_reading_X4_within : GoodIn wsX4_reading (va_wsS RX4 39 yX4_within wsX4_within) := goodIn_app (goodIn_of _ (by decide +kernel)) ggX4_reading_X4_within
set_option maxRecDepth 20000 in
theorem ggX4_reading_X0_timeOf : GoodIn wsX4_reading wsX0_timeOf := goodIn_r _ [17, 18, 38, 39, 40, 41, 42, 43, 44, 45] (by decide +kernel) (by decide +kernel)
set_option maxRecDepth 20000 in
theorem gX4_reading_X0_timeOf : GoodIn wsX4_reading (wsV RX4 69 RX0 yX0_timeOf wsX0_timeOf) := goodIn_app (goodIn_of _ (by decide +kernel)) ggX4_reading_X0_timeOf
set_option maxRecDepth 20000 in
theorem ggX4_reading_X0_placeOf : GoodIn wsX4_reading wsX0_placeOf := goodIn_r _ [22, 23, 38, 39, 40, 41, 42, 43, 44, 45] (by decide +kernel) (by decide +kernel)
set_option maxRecDepth 20000 in
theorem gX4_reading_X0_placeOf : GoodIn wsX4_reading (wsV RX4 73 RX0 yX0_placeOf wsX0_placeOf) := goodIn_app (goodIn_of _ (by decide +kernel)) ggX4_reading_X0_placeOf
set_option maxRecDepth 20000 in
theorem ggX4_reading_X0_valueOf : GoodIn wsX4_reading wsX0_valueOf := goodIn_r _ [27, 28, 38, 39, 40, 41, 42, 43, 44, 45] (by decide +kernel) (by decide +kernel)
set_option maxRecDepth 20000 in
theorem gX4_reading_X0_valueOf : GoodIn wsX4_reading (wsV RX4 76 RX0 yX0_valueOf wsX0_valueOf) := goodIn_app (goodIn_of _ (by decide +kernel)) ggX4_reading_X0_valueOf
set_option maxRecDepth 20000 in
theorem ggX4_reading_X0_isFitting : GoodIn wsX4_reading wsX0_isFitting := goodIn_r _ [32, 33, 38, 39, 40, 41, 42, 43, 44, 45] (by decide +kernel) (by decide +kernel)
set_option maxRecDepth 20000 in
theorem gX4_reading_X0_isFitting : GoodIn wsX4_reading (wsV RX4 79 RX0 yX0_isFitting wsX0_isFitting) := goodIn_app (goodIn_of _ (by decide +kernel)) ggX4_reading_X0_isFitting
theorem dX4_reading_0 : decode cX4_reading 0 = .ok (.iload_n 1, 1) := by decide +kernel
theorem dX4_reading_1 : decode cX4_reading 1 = .ok (.iconst 0, 1) := by decide +kernel
theorem dX4_reading_2 : decode cX4_reading 2 = .ok (.aload_n 0, 1) := by decide +kernel
theorem dX4_reading_3 : decode cX4_reading 3 = .ok (.getfield 10, 3) := by decide +kernel
theorem dX4_reading_6 : decode cX4_reading 6 = .ok (.invokevirtual 62, 3) := by decide +kernel
theorem dX4_reading_9 : decode cX4_reading 9 = .ok (.iconst 1, 1) := by decide +kernel
theorem dX4_reading_10 : decode cX4_reading 10 = .ok (.isub, 1) := by decide +kernel
theorem dX4_reading_11 : decode cX4_reading 11 = .ok (.invokestatic 39, 3) := by decide +kernel
theorem dX4_reading_14 : decode cX4_reading 14 = .ok (.ifCond .ne 6, 3) := by decide +kernel
theorem dX4_reading_17 : decode cX4_reading 17 = .ok (.ldc 68, 2) := by decide +kernel
theorem dX4_reading_19 : decode cX4_reading 19 = .ok (.ireturn, 1) := by decide +kernel
theorem dX4_reading_20 : decode cX4_reading 20 = .ok (.iload_n 2, 1) := by decide +kernel
theorem dX4_reading_21 : decode cX4_reading 21 = .ok (.tableswitch 75 0 3 #[31, 40, 49, 58], 31) := by decide +kernel
theorem dX4_reading_52 : decode cX4_reading 52 = .ok (.aload_n 0, 1) := by decide +kernel
theorem dX4_reading_53 : decode cX4_reading 53 = .ok (.getfield 10, 3) := by decide +kernel
theorem dX4_reading_56 : decode cX4_reading 56 = .ok (.iload_n 1, 1) := by decide +kernel
theorem dX4_reading_57 : decode cX4_reading 57 = .ok (.invokevirtual 69, 3) := by decide +kernel
theorem dX4_reading_60 : decode cX4_reading 60 = .ok (.ireturn, 1) := by decide +kernel
theorem dX4_reading_61 : decode cX4_reading 61 = .ok (.aload_n 0, 1) := by decide +kernel
theorem dX4_reading_62 : decode cX4_reading 62 = .ok (.getfield 10, 3) := by decide +kernel
theorem dX4_reading_65 : decode cX4_reading 65 = .ok (.iload_n 1, 1) := by decide +kernel
theorem dX4_reading_66 : decode cX4_reading 66 = .ok (.invokevirtual 73, 3) := by decide +kernel
theorem dX4_reading_69 : decode cX4_reading 69 = .ok (.ireturn, 1) := by decide +kernel
theorem dX4_reading_70 : decode cX4_reading 70 = .ok (.aload_n 0, 1) := by decide +kernel
theorem dX4_reading_71 : decode cX4_reading 71 = .ok (.getfield 10, 3) := by decide +kernel
theorem dX4_reading_74 : decode cX4_reading 74 = .ok (.iload_n 1, 1) := by decide +kernel
theorem dX4_reading_75 : decode cX4_reading 75 = .ok (.invokevirtual 76, 3) := by decide +kernel
theorem dX4_reading_78 : decode cX4_reading 78 = .ok (.ireturn, 1) := by decide +kernel
theorem dX4_reading_79 : decode cX4_reading 79 = .ok (.aload_n 0, 1) := by decide +kernel
theorem dX4_reading_80 : decode cX4_reading 80 = .ok (.getfield 10, 3) := by decide +kernel
theorem dX4_reading_83 : decode cX4_reading 83 = .ok (.iload_n 1, 1) := by decide +kernel
theorem dX4_reading_84 : decode cX4_reading 84 = .ok (.invokevirtual 79, 3) := by decide +kernel
theorem dX4_reading_87 : decode cX4_reading 87 = .ok (.ifCond .eq 7, 3) := by decide +kernel
theorem dX4_reading_90 : decode cX4_reading 90 = .ok (.iconst 1, 1) := by decide +kernel
theorem dX4_reading_91 : decode cX4_reading 91 = .ok (.goto 4, 3) := by decide +kernel
theorem dX4_reading_94 : decode cX4_reading 94 = .ok (.iconst 0, 1) := by decide +kernel
theorem dX4_reading_95 : decode cX4_reading 95 = .ok (.ireturn, 1) := by decide +kernel
theorem dX4_reading_96 : decode cX4_reading 96 = .ok (.ldc 82, 2) := by decide +kernel
theorem dX4_reading_98 : decode cX4_reading 98 = .ok (.ireturn, 1) := by decide +kernel
set_option maxRecDepth 20000 in
theorem ggX4_across_X4_isPlace : GoodIn wsX4_across wsX4_isPlace := goodIn_r _ [8, 9, 10, 11, 12, 13, 14, 15, 16, 17, 7, 18, 30, 31, 32, 33, 34, 35, 36, 37, 38, 39, 40, 41] (by decide +kernel) (by decide +kernel)
set_option maxRecDepth 20000 in
theorem gX4_across_X4_isPlace : GoodIn wsX4_across (wsV RX4 55 RX4 yX4_isPlace wsX4_isPlace) := goodIn_app (goodIn_of _ (by decide +kernel)) ggX4_across_X4_isPlace
set_option maxRecDepth 20000 in
theorem ggX4_across_X0_hasAcross : GoodIn wsX4_across wsX0_hasAcross := goodIn_r _ [23, 24, 42, 43, 44, 45, 46, 47, 48, 49] (by decide +kernel) (by decide +kernel)
set_option maxRecDepth 20000 in
theorem gX4_across_X0_hasAcross : GoodIn wsX4_across (wsV RX4 83 RX0 yX0_hasAcross wsX0_hasAcross) := goodIn_app (goodIn_of _ (by decide +kernel)) ggX4_across_X0_hasAcross
set_option maxRecDepth 20000 in
theorem ggX4_across_X0_acrossOf : GoodIn wsX4_across wsX0_acrossOf := goodIn_r _ [28, 29, 42, 43, 44, 45, 46, 47, 48, 49] (by decide +kernel) (by decide +kernel)
set_option maxRecDepth 20000 in
theorem gX4_across_X0_acrossOf : GoodIn wsX4_across (wsV RX4 86 RX0 yX0_acrossOf wsX0_acrossOf) := goodIn_app (goodIn_of _ (by decide +kernel)) ggX4_across_X0_acrossOf
theorem dX4_across_0 : decode cX4_across 0 = .ok (.aload_n 0, 1) := by decide +kernel
theorem dX4_across_1 : decode cX4_across 1 = .ok (.iload_n 1, 1) := by decide +kernel
theorem dX4_across_2 : decode cX4_across 2 = .ok (.invokevirtual 55, 3) := by decide +kernel
theorem dX4_across_5 : decode cX4_across 5 = .ok (.ifCond .ne 6, 3) := by decide +kernel
theorem dX4_across_8 : decode cX4_across 8 = .ok (.ldc 68, 2) := by decide +kernel
theorem dX4_across_10 : decode cX4_across 10 = .ok (.ireturn, 1) := by decide +kernel
theorem dX4_across_11 : decode cX4_across 11 = .ok (.aload_n 0, 1) := by decide +kernel
theorem dX4_across_12 : decode cX4_across 12 = .ok (.getfield 10, 3) := by decide +kernel
theorem dX4_across_15 : decode cX4_across 15 = .ok (.iload_n 1, 1) := by decide +kernel
theorem dX4_across_16 : decode cX4_across 16 = .ok (.invokevirtual 83, 3) := by decide +kernel
theorem dX4_across_19 : decode cX4_across 19 = .ok (.ifCond .eq 14, 3) := by decide +kernel
theorem dX4_across_22 : decode cX4_across 22 = .ok (.aload_n 0, 1) := by decide +kernel
theorem dX4_across_23 : decode cX4_across 23 = .ok (.getfield 10, 3) := by decide +kernel
theorem dX4_across_26 : decode cX4_across 26 = .ok (.iload_n 1, 1) := by decide +kernel
theorem dX4_across_27 : decode cX4_across 27 = .ok (.invokevirtual 86, 3) := by decide +kernel
theorem dX4_across_30 : decode cX4_across 30 = .ok (.goto 5, 3) := by decide +kernel
theorem dX4_across_33 : decode cX4_across 33 = .ok (.ldc 89, 2) := by decide +kernel
theorem dX4_across_35 : decode cX4_across 35 = .ok (.ireturn, 1) := by decide +kernel
set_option maxRecDepth 20000 in
theorem ggX4_along_X4_isTime : GoodIn wsX4_along wsX4_isTime := goodIn_r _ [7, 8, 9, 6, 10] (by decide +kernel) (by decide +kernel)
set_option maxRecDepth 20000 in
theorem gX4_along_X4_isTime : GoodIn wsX4_along (va_wsS RX4 59 yX4_isTime wsX4_isTime) := goodIn_app (goodIn_of _ (by decide +kernel)) ggX4_along_X4_isTime
set_option maxRecDepth 20000 in
theorem ggX4_along_X0_timesHangTogether : GoodIn wsX4_along wsX0_timesHangTogether := goodIn_r _ [15, 16, 17, 18, 14, 19, 29, 30, 31, 32, 33, 34, 35, 36] (by decide +kernel) (by decide +kernel)
set_option maxRecDepth 20000 in
theorem gX4_along_X0_timesHangTogether : GoodIn wsX4_along (wsV RX4 90 RX0 yX0_timesHangTogether wsX0_timesHangTogether) := goodIn_app (goodIn_of _ (by decide +kernel)) ggX4_along_X0_timesHangTogether
set_option maxRecDepth 20000 in
theorem ggX4_along_X0_moreAlong : GoodIn wsX4_along wsX0_moreAlong := goodIn_r _ [23, 24, 17, 18, 14, 19, 29, 30, 31, 32, 33, 34, 35, 36] (by decide +kernel) (by decide +kernel)
set_option maxRecDepth 20000 in
theorem gX4_along_X0_moreAlong : GoodIn wsX4_along (wsV RX4 94 RX0 yX0_moreAlong wsX0_moreAlong) := goodIn_app (goodIn_of _ (by decide +kernel)) ggX4_along_X0_moreAlong
theorem dX4_along_0 : decode cX4_along 0 = .ok (.iload_n 1, 1) := by decide +kernel
theorem dX4_along_1 : decode cX4_along 1 = .ok (.invokestatic 59, 3) := by decide +kernel
theorem dX4_along_4 : decode cX4_along 4 = .ok (.ifCond .eq 10, 3) := by decide +kernel
theorem dX4_along_7 : decode cX4_along 7 = .ok (.iload_n 2, 1) := by decide +kernel
theorem dX4_along_8 : decode cX4_along 8 = .ok (.invokestatic 59, 3) := by decide +kernel
theorem dX4_along_11 : decode cX4_along 11 = .ok (.ifCond .ne 6, 3) := by decide +kernel
theorem dX4_along_14 : decode cX4_along 14 = .ok (.ldc 68, 2) := by decide +kernel
theorem dX4_along_16 : decode cX4_along 16 = .ok (.ireturn, 1) := by decide +kernel
theorem dX4_along_17 : decode cX4_along 17 = .ok (.aload_n 0, 1) := by decide +kernel
theorem dX4_along_18 : decode cX4_along 18 = .ok (.getfield 10, 3) := by decide +kernel
theorem dX4_along_21 : decode cX4_along 21 = .ok (.iload_n 1, 1) := by decide +kernel
theorem dX4_along_22 : decode cX4_along 22 = .ok (.iload_n 2, 1) := by decide +kernel
theorem dX4_along_23 : decode cX4_along 23 = .ok (.invokevirtual 90, 3) := by decide +kernel
theorem dX4_along_26 : decode cX4_along 26 = .ok (.ifCond .eq 15, 3) := by decide +kernel
theorem dX4_along_29 : decode cX4_along 29 = .ok (.aload_n 0, 1) := by decide +kernel
theorem dX4_along_30 : decode cX4_along 30 = .ok (.getfield 10, 3) := by decide +kernel
theorem dX4_along_33 : decode cX4_along 33 = .ok (.iload_n 1, 1) := by decide +kernel
theorem dX4_along_34 : decode cX4_along 34 = .ok (.iload_n 2, 1) := by decide +kernel
theorem dX4_along_35 : decode cX4_along 35 = .ok (.invokevirtual 94, 3) := by decide +kernel
theorem dX4_along_38 : decode cX4_along 38 = .ok (.goto 5, 3) := by decide +kernel
theorem dX4_along_41 : decode cX4_along 41 = .ok (.ldc 89, 2) := by decide +kernel
theorem dX4_along_43 : decode cX4_along 43 = .ok (.ireturn, 1) := by decide +kernel
set_option maxRecDepth 20000 in
theorem ggX4_groups_X2_places : GoodIn wsX4_groups wsX2_places := goodIn_r _ [7, 8, 23, 24, 25, 26, 27, 28, 29, 30] (by decide +kernel) (by decide +kernel)
set_option maxRecDepth 20000 in
theorem gX4_groups_X2_places : GoodIn wsX4_groups (wsV RX4 43 RX2 yX2_places wsX2_places) := goodIn_app (goodIn_of _ (by decide +kernel)) ggX4_groups_X2_places
set_option maxRecDepth 20000 in
theorem ggX4_groups_X0_countGroups : GoodIn wsX4_groups wsX0_countGroups := goodIn_r _ [13, 14, 15, 16, 12, 17, 18, 31, 32, 33, 34, 35, 36, 37, 38] (by decide +kernel) (by decide +kernel)
set_option maxRecDepth 20000 in
theorem gX4_groups_X0_countGroups : GoodIn wsX4_groups (wsV RX4 98 RX0 yX0_countGroups wsX0_countGroups) := goodIn_app (goodIn_of _ (by decide +kernel)) ggX4_groups_X0_countGroups
theorem dX4_groups_0 : decode cX4_groups 0 = .ok (.aload_n 0, 1) := by decide +kernel
theorem dX4_groups_1 : decode cX4_groups 1 = .ok (.getfield 10, 3) := by decide +kernel
theorem dX4_groups_4 : decode cX4_groups 4 = .ok (.aload_n 0, 1) := by decide +kernel
theorem dX4_groups_5 : decode cX4_groups 5 = .ok (.getfield 19, 3) := by decide +kernel
theorem dX4_groups_8 : decode cX4_groups 8 = .ok (.invokevirtual 43, 3) := by decide +kernel
theorem dX4_groups_11 : decode cX4_groups 11 = .ok (.invokevirtual 98, 3) := by decide +kernel
theorem dX4_groups_14 : decode cX4_groups 14 = .ok (.ireturn, 1) := by decide +kernel
set_option maxRecDepth 20000 in
theorem ggX4_take_X2_places : GoodIn wsX4_take wsX2_places := goodIn_r _ [7, 8, 33, 34, 35, 36, 37, 38, 39, 40] (by decide +kernel) (by decide +kernel)
set_option maxRecDepth 20000 in
theorem gX4_take_X2_places : GoodIn wsX4_take (wsV RX4 43 RX2 yX2_places wsX2_places) := goodIn_app (goodIn_of _ (by decide +kernel)) ggX4_take_X2_places
set_option maxRecDepth 20000 in
theorem ggX4_take_X0_hasAcross : GoodIn wsX4_take wsX0_hasAcross := goodIn_r _ [13, 14, 41, 42, 43, 44, 45, 46, 47, 48] (by decide +kernel) (by decide +kernel)
set_option maxRecDepth 20000 in
theorem gX4_take_X0_hasAcross : GoodIn wsX4_take (wsV RX4 83 RX0 yX0_hasAcross wsX0_hasAcross) := goodIn_app (goodIn_of _ (by decide +kernel)) ggX4_take_X0_hasAcross
set_option maxRecDepth 20000 in
theorem ggX4_take_X0_acrossOf : GoodIn wsX4_take wsX0_acrossOf := goodIn_r _ [18, 19, 41, 42, 43, 44, 45, 46, 47, 48] (by decide +kernel) (by decide +kernel)
set_option maxRecDepth 20000 in
theorem gX4_take_X0_acrossOf : GoodIn wsX4_take (wsV RX4 86 RX0 yX0_acrossOf wsX0_acrossOf) := goodIn_app (goodIn_of _ (by decide +kernel)) ggX4_take_X0_acrossOf
set_option maxRecDepth 20000 in
theorem ggX4_take_X4_within : GoodIn wsX4_take wsX4_within := goodIn_r _ [23] (by decide +kernel) (by decide +kernel)
set_option maxRecDepth 20000 in
theorem gX4_take_X4_within : GoodIn wsX4_take (va_wsS RX4 39 yX4_within wsX4_within) := goodIn_app (goodIn_of _ (by decide +kernel)) ggX4_take_X4_within
set_option maxRecDepth 20000 in
theorem ggX4_take_X2_putBase : GoodIn wsX4_take wsX2_putBase := goodIn_r _ [27, 28, 33, 34, 35, 36, 37, 38, 39, 40] (by decide +kernel) (by decide +kernel)
set_option maxRecDepth 20000 in
theorem gX4_take_X2_putBase : GoodIn wsX4_take (wsV RX4 101 RX2 yX2_putBase wsX2_putBase) := goodIn_app (goodIn_of _ (by decide +kernel)) ggX4_take_X2_putBase
theorem dX4_take_0 : decode cX4_take 0 = .ok (.aload_n 0, 1) := by decide +kernel
theorem dX4_take_1 : decode cX4_take 1 = .ok (.getfield 19, 3) := by decide +kernel
theorem dX4_take_4 : decode cX4_take 4 = .ok (.invokevirtual 43, 3) := by decide +kernel
theorem dX4_take_7 : decode cX4_take 7 = .ok (.istore_n 1, 1) := by decide +kernel
theorem dX4_take_8 : decode cX4_take 8 = .ok (.iconst 0, 1) := by decide +kernel
theorem dX4_take_9 : decode cX4_take 9 = .ok (.istore_n 2, 1) := by decide +kernel
theorem dX4_take_10 : decode cX4_take 10 = .ok (.iload_n 2, 1) := by decide +kernel
theorem dX4_take_11 : decode cX4_take 11 = .ok (.iload_n 1, 1) := by decide +kernel
theorem dX4_take_12 : decode cX4_take 12 = .ok (.if_icmp .ge 43, 3) := by decide +kernel
theorem dX4_take_15 : decode cX4_take 15 = .ok (.aload_n 0, 1) := by decide +kernel
theorem dX4_take_16 : decode cX4_take 16 = .ok (.getfield 10, 3) := by decide +kernel
theorem dX4_take_19 : decode cX4_take 19 = .ok (.iload_n 2, 1) := by decide +kernel
theorem dX4_take_20 : decode cX4_take 20 = .ok (.invokevirtual 83, 3) := by decide +kernel
theorem dX4_take_23 : decode cX4_take 23 = .ok (.ifCond .eq 23, 3) := by decide +kernel
theorem dX4_take_26 : decode cX4_take 26 = .ok (.aload_n 0, 1) := by decide +kernel
theorem dX4_take_27 : decode cX4_take 27 = .ok (.getfield 10, 3) := by decide +kernel
theorem dX4_take_30 : decode cX4_take 30 = .ok (.iload_n 2, 1) := by decide +kernel
theorem dX4_take_31 : decode cX4_take 31 = .ok (.invokevirtual 86, 3) := by decide +kernel
theorem dX4_take_34 : decode cX4_take 34 = .ok (.sipush (-2000), 3) := by decide +kernel
theorem dX4_take_37 : decode cX4_take 37 = .ok (.sipush 2000, 3) := by decide +kernel
theorem dX4_take_40 : decode cX4_take 40 = .ok (.invokestatic 39, 3) := by decide +kernel
theorem dX4_take_43 : decode cX4_take 43 = .ok (.ifCond .ne 6, 3) := by decide +kernel
theorem dX4_take_46 : decode cX4_take 46 = .ok (.bipush (-5), 2) := by decide +kernel
theorem dX4_take_48 : decode cX4_take 48 = .ok (.ireturn, 1) := by decide +kernel
theorem dX4_take_49 : decode cX4_take 49 = .ok (.iinc 2 1, 3) := by decide +kernel
theorem dX4_take_52 : decode cX4_take 52 = .ok (.goto (-42), 3) := by decide +kernel
theorem dX4_take_55 : decode cX4_take 55 = .ok (.iconst 0, 1) := by decide +kernel
theorem dX4_take_56 : decode cX4_take 56 = .ok (.istore_n 2, 1) := by decide +kernel
theorem dX4_take_57 : decode cX4_take 57 = .ok (.iload_n 2, 1) := by decide +kernel
theorem dX4_take_58 : decode cX4_take 58 = .ok (.iload_n 1, 1) := by decide +kernel
theorem dX4_take_59 : decode cX4_take 59 = .ok (.if_icmp .ge 25, 3) := by decide +kernel
theorem dX4_take_62 : decode cX4_take 62 = .ok (.aload_n 0, 1) := by decide +kernel
theorem dX4_take_63 : decode cX4_take 63 = .ok (.getfield 19, 3) := by decide +kernel
theorem dX4_take_66 : decode cX4_take 66 = .ok (.iload_n 2, 1) := by decide +kernel
theorem dX4_take_67 : decode cX4_take 67 = .ok (.aload_n 0, 1) := by decide +kernel
theorem dX4_take_68 : decode cX4_take 68 = .ok (.getfield 10, 3) := by decide +kernel
theorem dX4_take_71 : decode cX4_take 71 = .ok (.iload_n 2, 1) := by decide +kernel
theorem dX4_take_72 : decode cX4_take 72 = .ok (.invokevirtual 86, 3) := by decide +kernel
theorem dX4_take_75 : decode cX4_take 75 = .ok (.invokevirtual 101, 3) := by decide +kernel
theorem dX4_take_78 : decode cX4_take 78 = .ok (.iinc 2 1, 3) := by decide +kernel
theorem dX4_take_81 : decode cX4_take 81 = .ok (.goto (-24), 3) := by decide +kernel
theorem dX4_take_84 : decode cX4_take 84 = .ok (.iconst 1, 1) := by decide +kernel
theorem dX4_take_85 : decode cX4_take 85 = .ok (.ireturn, 1) := by decide +kernel
set_option maxRecDepth 20000 in
theorem ggX4_clear_X0_count : GoodIn wsX4_clear wsX0_count := goodIn_r _ [6, 7, 19, 20, 21, 22, 23, 24, 25, 26] (by decide +kernel) (by decide +kernel)
set_option maxRecDepth 20000 in
theorem gX4_clear_X0_count : GoodIn wsX4_clear (wsV RX4 62 RX0 yX0_count wsX0_count) := goodIn_app (goodIn_of _ (by decide +kernel)) ggX4_clear_X0_count
set_option maxRecDepth 20000 in
theorem ggX4_clear_X0_forget : GoodIn wsX4_clear wsX0_forget := goodIn_r _ [11, 7, 12, 13, 14, 19, 20, 21, 22, 23, 24, 25, 26] (by decide +kernel) (by decide +kernel)
set_option maxRecDepth 20000 in
theorem gX4_clear_X0_forget : GoodIn wsX4_clear (wsV RX4 47 RX0 yX0_forget wsX0_forget) := goodIn_app (goodIn_of _ (by decide +kernel)) ggX4_clear_X0_forget
theorem dX4_clear_0 : decode cX4_clear 0 = .ok (.aload_n 0, 1) := by decide +kernel
theorem dX4_clear_1 : decode cX4_clear 1 = .ok (.getfield 10, 3) := by decide +kernel
theorem dX4_clear_4 : decode cX4_clear 4 = .ok (.invokevirtual 62, 3) := by decide +kernel
theorem dX4_clear_7 : decode cX4_clear 7 = .ok (.istore_n 1, 1) := by decide +kernel
theorem dX4_clear_8 : decode cX4_clear 8 = .ok (.aload_n 0, 1) := by decide +kernel
theorem dX4_clear_9 : decode cX4_clear 9 = .ok (.getfield 10, 3) := by decide +kernel
theorem dX4_clear_12 : decode cX4_clear 12 = .ok (.invokevirtual 47, 3) := by decide +kernel
theorem dX4_clear_15 : decode cX4_clear 15 = .ok (.iload_n 1, 1) := by decide +kernel
theorem dX4_clear_16 : decode cX4_clear 16 = .ok (.ireturn, 1) := by decide +kernel
set_option maxRecDepth 20000 in
theorem ggX4_laws_X4_within : GoodIn wsX4_laws wsX4_within := goodIn_r _ [5] (by decide +kernel) (by decide +kernel)
set_option maxRecDepth 20000 in
theorem gX4_laws_X4_within : GoodIn wsX4_laws (va_wsS RX4 39 yX4_within wsX4_within) := goodIn_app (goodIn_of _ (by decide +kernel)) ggX4_laws_X4_within
set_option maxRecDepth 20000 in
theorem ggX4_laws_X2_isLawful : GoodIn wsX4_laws wsX2_isLawful := goodIn_r _ [10, 11, 12, 13, 14, 15, 16, 27, 28, 29, 30, 31, 32, 33, 34] (by decide +kernel) (by decide +kernel)
set_option maxRecDepth 20000 in
theorem gX4_laws_X2_isLawful : GoodIn wsX4_laws (wsV RX4 105 RX2 yX2_isLawful wsX2_isLawful) := goodIn_app (goodIn_of _ (by decide +kernel)) ggX4_laws_X2_isLawful
set_option maxRecDepth 20000 in
theorem ggX4_laws_X2_putLaws : GoodIn wsX4_laws wsX2_putLaws := goodIn_r _ [20, 21, 22, 27, 28, 29, 30, 31, 32, 33, 34] (by decide +kernel) (by decide +kernel)
set_option maxRecDepth 20000 in
theorem gX4_laws_X2_putLaws : GoodIn wsX4_laws (wsV RX4 108 RX2 yX2_putLaws wsX2_putLaws) := goodIn_app (goodIn_of _ (by decide +kernel)) ggX4_laws_X2_putLaws
theorem dX4_laws_0 : decode cX4_laws 0 = .ok (.iload_n 1, 1) := by decide +kernel
theorem dX4_laws_1 : decode cX4_laws 1 = .ok (.iconst 0, 1) := by decide +kernel
theorem dX4_laws_2 : decode cX4_laws 2 = .ok (.bipush 20, 2) := by decide +kernel
theorem dX4_laws_4 : decode cX4_laws 4 = .ok (.invokestatic 39, 3) := by decide +kernel
theorem dX4_laws_7 : decode cX4_laws 7 = .ok (.ifCond .eq 13, 3) := by decide +kernel
theorem dX4_laws_10 : decode cX4_laws 10 = .ok (.iload_n 2, 1) := by decide +kernel
theorem dX4_laws_11 : decode cX4_laws 11 = .ok (.iconst 0, 1) := by decide +kernel
theorem dX4_laws_12 : decode cX4_laws 12 = .ok (.bipush 40, 2) := by decide +kernel
theorem dX4_laws_14 : decode cX4_laws 14 = .ok (.invokestatic 39, 3) := by decide +kernel
theorem dX4_laws_17 : decode cX4_laws 17 = .ok (.ifCond .ne 6, 3) := by decide +kernel
theorem dX4_laws_20 : decode cX4_laws 20 = .ok (.bipush (-2), 2) := by decide +kernel
theorem dX4_laws_22 : decode cX4_laws 22 = .ok (.ireturn, 1) := by decide +kernel
theorem dX4_laws_23 : decode cX4_laws 23 = .ok (.aload_n 0, 1) := by decide +kernel
theorem dX4_laws_24 : decode cX4_laws 24 = .ok (.getfield 19, 3) := by decide +kernel
theorem dX4_laws_27 : decode cX4_laws 27 = .ok (.iload_n 1, 1) := by decide +kernel
theorem dX4_laws_28 : decode cX4_laws 28 = .ok (.iload_n 2, 1) := by decide +kernel
theorem dX4_laws_29 : decode cX4_laws 29 = .ok (.invokevirtual 105, 3) := by decide +kernel
theorem dX4_laws_32 : decode cX4_laws 32 = .ok (.ifCond .ne 6, 3) := by decide +kernel
theorem dX4_laws_35 : decode cX4_laws 35 = .ok (.bipush (-5), 2) := by decide +kernel
theorem dX4_laws_37 : decode cX4_laws 37 = .ok (.ireturn, 1) := by decide +kernel
theorem dX4_laws_38 : decode cX4_laws 38 = .ok (.aload_n 0, 1) := by decide +kernel
theorem dX4_laws_39 : decode cX4_laws 39 = .ok (.getfield 19, 3) := by decide +kernel
theorem dX4_laws_42 : decode cX4_laws 42 = .ok (.iload_n 1, 1) := by decide +kernel
theorem dX4_laws_43 : decode cX4_laws 43 = .ok (.iload_n 2, 1) := by decide +kernel
theorem dX4_laws_44 : decode cX4_laws 44 = .ok (.invokevirtual 108, 3) := by decide +kernel
theorem dX4_laws_47 : decode cX4_laws 47 = .ok (.iconst 1, 1) := by decide +kernel
theorem dX4_laws_48 : decode cX4_laws 48 = .ok (.ireturn, 1) := by decide +kernel
set_option maxRecDepth 20000 in
theorem ggX4_spread_X4_within : GoodIn wsX4_spread wsX4_within := goodIn_r _ [5] (by decide +kernel) (by decide +kernel)
set_option maxRecDepth 20000 in
theorem gX4_spread_X4_within : GoodIn wsX4_spread (va_wsS RX4 39 yX4_within wsX4_within) := goodIn_app (goodIn_of _ (by decide +kernel)) ggX4_spread_X4_within
set_option maxRecDepth 20000 in
theorem ggX4_spread_X2_putSpread : GoodIn wsX4_spread wsX2_putSpread := goodIn_r _ [10, 11, 12, 17, 18, 19, 20, 21, 22, 23, 24] (by decide +kernel) (by decide +kernel)
set_option maxRecDepth 20000 in
theorem gX4_spread_X2_putSpread : GoodIn wsX4_spread (wsV RX4 111 RX2 yX2_putSpread wsX2_putSpread) := goodIn_app (goodIn_of _ (by decide +kernel)) ggX4_spread_X2_putSpread
theorem dX4_spread_0 : decode cX4_spread 0 = .ok (.iload_n 1, 1) := by decide +kernel
theorem dX4_spread_1 : decode cX4_spread 1 = .ok (.iconst 1, 1) := by decide +kernel
theorem dX4_spread_2 : decode cX4_spread 2 = .ok (.bipush 20, 2) := by decide +kernel
theorem dX4_spread_4 : decode cX4_spread 4 = .ok (.invokestatic 39, 3) := by decide +kernel
theorem dX4_spread_7 : decode cX4_spread 7 = .ok (.ifCond .eq 13, 3) := by decide +kernel
theorem dX4_spread_10 : decode cX4_spread 10 = .ok (.iload_n 2, 1) := by decide +kernel
theorem dX4_spread_11 : decode cX4_spread 11 = .ok (.bipush (-5), 2) := by decide +kernel
theorem dX4_spread_13 : decode cX4_spread 13 = .ok (.iconst 5, 1) := by decide +kernel
theorem dX4_spread_14 : decode cX4_spread 14 = .ok (.invokestatic 39, 3) := by decide +kernel
theorem dX4_spread_17 : decode cX4_spread 17 = .ok (.ifCond .ne 6, 3) := by decide +kernel
theorem dX4_spread_20 : decode cX4_spread 20 = .ok (.bipush (-2), 2) := by decide +kernel
theorem dX4_spread_22 : decode cX4_spread 22 = .ok (.ireturn, 1) := by decide +kernel
theorem dX4_spread_23 : decode cX4_spread 23 = .ok (.aload_n 0, 1) := by decide +kernel
theorem dX4_spread_24 : decode cX4_spread 24 = .ok (.getfield 19, 3) := by decide +kernel
theorem dX4_spread_27 : decode cX4_spread 27 = .ok (.iload_n 1, 1) := by decide +kernel
theorem dX4_spread_28 : decode cX4_spread 28 = .ok (.iload_n 2, 1) := by decide +kernel
theorem dX4_spread_29 : decode cX4_spread 29 = .ok (.invokevirtual 111, 3) := by decide +kernel
theorem dX4_spread_32 : decode cX4_spread 32 = .ok (.iconst 1, 1) := by decide +kernel
theorem dX4_spread_33 : decode cX4_spread 33 = .ok (.ireturn, 1) := by decide +kernel
set_option maxRecDepth 20000 in
theorem ggX4_base_X4_isPlace : GoodIn wsX4_base wsX4_isPlace := goodIn_r _ [6, 1, 7, 8, 9, 10, 11, 12, 13, 14, 5, 15, 21, 22, 23, 24, 25, 26, 27, 28, 29, 30, 31, 32] (by decide +kernel) (by decide +kernel)
set_option maxRecDepth 20000 in
theorem gX4_base_X4_isPlace : GoodIn wsX4_base (wsV RX4 55 RX4 yX4_isPlace wsX4_isPlace) := goodIn_app (goodIn_of _ (by decide +kernel)) ggX4_base_X4_isPlace
set_option maxRecDepth 20000 in
theorem ggX4_base_X4_within : GoodIn wsX4_base wsX4_within := goodIn_r _ [15] (by decide +kernel) (by decide +kernel)
set_option maxRecDepth 20000 in
theorem gX4_base_X4_within : GoodIn wsX4_base (va_wsS RX4 39 yX4_within wsX4_within) := goodIn_app (goodIn_of _ (by decide +kernel)) ggX4_base_X4_within
set_option maxRecDepth 20000 in
theorem ggX4_base_X2_putBase : GoodIn wsX4_base wsX2_putBase := goodIn_r _ [19, 20, 25, 26, 27, 28, 29, 30, 31, 32] (by decide +kernel) (by decide +kernel)
set_option maxRecDepth 20000 in
theorem gX4_base_X2_putBase : GoodIn wsX4_base (wsV RX4 101 RX2 yX2_putBase wsX2_putBase) := goodIn_app (goodIn_of _ (by decide +kernel)) ggX4_base_X2_putBase
theorem dX4_base_0 : decode cX4_base 0 = .ok (.aload_n 0, 1) := by decide +kernel
theorem dX4_base_1 : decode cX4_base 1 = .ok (.iload_n 1, 1) := by decide +kernel
theorem dX4_base_2 : decode cX4_base 2 = .ok (.invokevirtual 55, 3) := by decide +kernel
theorem dX4_base_5 : decode cX4_base 5 = .ok (.ifCond .ne 5, 3) := by decide +kernel
theorem dX4_base_8 : decode cX4_base 8 = .ok (.iconst (-1), 1) := by decide +kernel
theorem dX4_base_9 : decode cX4_base 9 = .ok (.ireturn, 1) := by decide +kernel
theorem dX4_base_10 : decode cX4_base 10 = .ok (.iload_n 2, 1) := by decide +kernel
theorem dX4_base_11 : decode cX4_base 11 = .ok (.sipush (-2000), 3) := by decide +kernel
theorem dX4_base_14 : decode cX4_base 14 = .ok (.sipush 2000, 3) := by decide +kernel
theorem dX4_base_17 : decode cX4_base 17 = .ok (.invokestatic 39, 3) := by decide +kernel
theorem dX4_base_20 : decode cX4_base 20 = .ok (.ifCond .ne 6, 3) := by decide +kernel
theorem dX4_base_23 : decode cX4_base 23 = .ok (.bipush (-2), 2) := by decide +kernel
theorem dX4_base_25 : decode cX4_base 25 = .ok (.ireturn, 1) := by decide +kernel
theorem dX4_base_26 : decode cX4_base 26 = .ok (.aload_n 0, 1) := by decide +kernel
theorem dX4_base_27 : decode cX4_base 27 = .ok (.getfield 19, 3) := by decide +kernel
theorem dX4_base_30 : decode cX4_base 30 = .ok (.iload_n 1, 1) := by decide +kernel
theorem dX4_base_31 : decode cX4_base 31 = .ok (.iload_n 2, 1) := by decide +kernel
theorem dX4_base_32 : decode cX4_base 32 = .ok (.invokevirtual 101, 3) := by decide +kernel
theorem dX4_base_35 : decode cX4_base 35 = .ok (.iconst 1, 1) := by decide +kernel
theorem dX4_base_36 : decode cX4_base 36 = .ok (.ireturn, 1) := by decide +kernel
set_option maxRecDepth 20000 in
theorem ggX4_set_X4_isPlace : GoodIn wsX4_set wsX4_isPlace := goodIn_r _ [6, 1, 7, 8, 9, 10, 11, 12, 13, 14, 5, 15, 31, 32, 33, 34, 35, 36, 37, 38, 39, 40, 41, 42] (by decide +kernel) (by decide +kernel)
set_option maxRecDepth 20000 in
theorem gX4_set_X4_isPlace : GoodIn wsX4_set (wsV RX4 55 RX4 yX4_isPlace wsX4_isPlace) := goodIn_app (goodIn_of _ (by decide +kernel)) ggX4_set_X4_isPlace
set_option maxRecDepth 20000 in
theorem ggX4_set_X4_within : GoodIn wsX4_set wsX4_within := goodIn_r _ [15] (by decide +kernel) (by decide +kernel)
set_option maxRecDepth 20000 in
theorem gX4_set_X4_within : GoodIn wsX4_set (va_wsS RX4 39 yX4_within wsX4_within) := goodIn_app (goodIn_of _ (by decide +kernel)) ggX4_set_X4_within
set_option maxRecDepth 20000 in
theorem ggX4_set_X2_trySetting : GoodIn wsX4_set wsX2_trySetting := goodIn_r _ [19, 20, 21, 22, 23, 24, 25, 10, 26, 12, 27, 28, 29, 30, 35, 36, 37, 38, 39, 40, 41, 42] (by decide +kernel) (by decide +kernel)
set_option maxRecDepth 20000 in
theorem gX4_set_X2_trySetting : GoodIn wsX4_set (wsV RX4 114 RX2 yX2_trySetting wsX2_trySetting) := goodIn_app (goodIn_of _ (by decide +kernel)) ggX4_set_X2_trySetting
theorem dX4_set_0 : decode cX4_set 0 = .ok (.aload_n 0, 1) := by decide +kernel
theorem dX4_set_1 : decode cX4_set 1 = .ok (.iload_n 1, 1) := by decide +kernel
theorem dX4_set_2 : decode cX4_set 2 = .ok (.invokevirtual 55, 3) := by decide +kernel
theorem dX4_set_5 : decode cX4_set 5 = .ok (.ifCond .ne 5, 3) := by decide +kernel
theorem dX4_set_8 : decode cX4_set 8 = .ok (.iconst (-1), 1) := by decide +kernel
theorem dX4_set_9 : decode cX4_set 9 = .ok (.ireturn, 1) := by decide +kernel
theorem dX4_set_10 : decode cX4_set 10 = .ok (.iload_n 2, 1) := by decide +kernel
theorem dX4_set_11 : decode cX4_set 11 = .ok (.bipush (-10), 2) := by decide +kernel
theorem dX4_set_13 : decode cX4_set 13 = .ok (.bipush 10, 2) := by decide +kernel
theorem dX4_set_15 : decode cX4_set 15 = .ok (.invokestatic 39, 3) := by decide +kernel
theorem dX4_set_18 : decode cX4_set 18 = .ok (.ifCond .ne 6, 3) := by decide +kernel
theorem dX4_set_21 : decode cX4_set 21 = .ok (.bipush (-2), 2) := by decide +kernel
theorem dX4_set_23 : decode cX4_set 23 = .ok (.ireturn, 1) := by decide +kernel
theorem dX4_set_24 : decode cX4_set 24 = .ok (.aload_n 0, 1) := by decide +kernel
theorem dX4_set_25 : decode cX4_set 25 = .ok (.getfield 19, 3) := by decide +kernel
theorem dX4_set_28 : decode cX4_set 28 = .ok (.iload_n 1, 1) := by decide +kernel
theorem dX4_set_29 : decode cX4_set 29 = .ok (.iload_n 2, 1) := by decide +kernel
theorem dX4_set_30 : decode cX4_set 30 = .ok (.invokevirtual 114, 3) := by decide +kernel
theorem dX4_set_33 : decode cX4_set 33 = .ok (.ifCond .eq 7, 3) := by decide +kernel
theorem dX4_set_36 : decode cX4_set 36 = .ok (.iconst 1, 1) := by decide +kernel
theorem dX4_set_37 : decode cX4_set 37 = .ok (.goto 5, 3) := by decide +kernel
theorem dX4_set_40 : decode cX4_set 40 = .ok (.bipush (-5), 2) := by decide +kernel
theorem dX4_set_42 : decode cX4_set 42 = .ok (.ireturn, 1) := by decide +kernel
set_option maxRecDepth 20000 in
theorem ggX4_about_X4_isPlace : GoodIn wsX4_about wsX4_isPlace := goodIn_r _ [8, 2, 9, 10, 11, 12, 13, 14, 15, 16, 7, 17, 34, 35, 36, 37, 38, 39, 40, 41, 42, 43, 44, 45] (by decide +kernel) (by decide +kernel)
set_option maxRecDepth 20000 in
theorem gX4_about_X4_isPlace : GoodIn wsX4_about (wsV RX4 55 RX4 yX4_isPlace wsX4_isPlace) := goodIn_app (goodIn_of _ (by decide +kernel)) ggX4_about_X4_isPlace
set_option maxRecDepth 20000 in
theorem ggX4_about_X2_settingOf : GoodIn wsX4_about wsX2_settingOf := goodIn_r _ [21, 22, 38, 39, 40, 41, 42, 43, 44, 45] (by decide +kernel) (by decide +kernel)
set_option maxRecDepth 20000 in
theorem gX4_about_X2_settingOf : GoodIn wsX4_about (wsV RX4 117 RX2 yX2_settingOf wsX2_settingOf) := goodIn_app (goodIn_of _ (by decide +kernel)) ggX4_about_X2_settingOf
set_option maxRecDepth 20000 in
theorem ggX4_about_X2_baseOf : GoodIn wsX4_about wsX2_baseOf := goodIn_r _ [26, 27, 38, 39, 40, 41, 42, 43, 44, 45] (by decide +kernel) (by decide +kernel)
set_option maxRecDepth 20000 in
theorem gX4_about_X2_baseOf : GoodIn wsX4_about (wsV RX4 120 RX2 yX2_baseOf wsX2_baseOf) := goodIn_app (goodIn_of _ (by decide +kernel)) ggX4_about_X2_baseOf
set_option maxRecDepth 20000 in
theorem ggX4_about_X2_errorOf : GoodIn wsX4_about wsX2_errorOf := goodIn_r _ [31, 27, 32, 22, 33, 14, 38, 39, 40, 41, 42, 43, 44, 45] (by decide +kernel) (by decide +kernel)
set_option maxRecDepth 20000 in
theorem gX4_about_X2_errorOf : GoodIn wsX4_about (wsV RX4 123 RX2 yX2_errorOf wsX2_errorOf) := goodIn_app (goodIn_of _ (by decide +kernel)) ggX4_about_X2_errorOf
theorem dX4_about_0 : decode cX4_about 0 = .ok (.aload_n 0, 1) := by decide +kernel
theorem dX4_about_1 : decode cX4_about 1 = .ok (.iload_n 1, 1) := by decide +kernel
theorem dX4_about_2 : decode cX4_about 2 = .ok (.invokevirtual 55, 3) := by decide +kernel
theorem dX4_about_5 : decode cX4_about 5 = .ok (.ifCond .ne 6, 3) := by decide +kernel
theorem dX4_about_8 : decode cX4_about 8 = .ok (.ldc 68, 2) := by decide +kernel
theorem dX4_about_10 : decode cX4_about 10 = .ok (.ireturn, 1) := by decide +kernel
theorem dX4_about_11 : decode cX4_about 11 = .ok (.iload_n 2, 1) := by decide +kernel
theorem dX4_about_12 : decode cX4_about 12 = .ok (.tableswitch 55 0 2 #[28, 37, 46], 28) := by decide +kernel
theorem dX4_about_40 : decode cX4_about 40 = .ok (.aload_n 0, 1) := by decide +kernel
theorem dX4_about_41 : decode cX4_about 41 = .ok (.getfield 19, 3) := by decide +kernel
theorem dX4_about_44 : decode cX4_about 44 = .ok (.iload_n 1, 1) := by decide +kernel
theorem dX4_about_45 : decode cX4_about 45 = .ok (.invokevirtual 117, 3) := by decide +kernel
theorem dX4_about_48 : decode cX4_about 48 = .ok (.ireturn, 1) := by decide +kernel
theorem dX4_about_49 : decode cX4_about 49 = .ok (.aload_n 0, 1) := by decide +kernel
theorem dX4_about_50 : decode cX4_about 50 = .ok (.getfield 19, 3) := by decide +kernel
theorem dX4_about_53 : decode cX4_about 53 = .ok (.iload_n 1, 1) := by decide +kernel
theorem dX4_about_54 : decode cX4_about 54 = .ok (.invokevirtual 120, 3) := by decide +kernel
theorem dX4_about_57 : decode cX4_about 57 = .ok (.ireturn, 1) := by decide +kernel
theorem dX4_about_58 : decode cX4_about 58 = .ok (.aload_n 0, 1) := by decide +kernel
theorem dX4_about_59 : decode cX4_about 59 = .ok (.getfield 19, 3) := by decide +kernel
theorem dX4_about_62 : decode cX4_about 62 = .ok (.iload_n 1, 1) := by decide +kernel
theorem dX4_about_63 : decode cX4_about 63 = .ok (.invokevirtual 123, 3) := by decide +kernel
theorem dX4_about_66 : decode cX4_about 66 = .ok (.ireturn, 1) := by decide +kernel
theorem dX4_about_67 : decode cX4_about 67 = .ok (.ldc 82, 2) := by decide +kernel
theorem dX4_about_69 : decode cX4_about 69 = .ok (.ireturn, 1) := by decide +kernel
set_option maxRecDepth 20000 in
theorem ggX4_uneven_X4_within : GoodIn wsX4_uneven wsX4_within := goodIn_r _ [5] (by decide +kernel) (by decide +kernel)
set_option maxRecDepth 20000 in
theorem gX4_uneven_X4_within : GoodIn wsX4_uneven (va_wsS RX4 39 yX4_within wsX4_within) := goodIn_app (goodIn_of _ (by decide +kernel)) ggX4_uneven_X4_within
set_option maxRecDepth 20000 in
theorem ggX4_uneven_X2_unevenness : GoodIn wsX4_uneven wsX2_unevenness := goodIn_r _ [10, 11, 12, 13, 14, 9, 15, 16, 17, 18, 19, 20, 21, 22, 23, 24, 25, 26, 27, 28, 29, 30, 31, 32, 33, 38, 39, 40, 41, 42, 43, 44, 45] (by decide +kernel) (by decide +kernel)
set_option maxRecDepth 20000 in
theorem gX4_uneven_X2_unevenness : GoodIn wsX4_uneven (wsV RX4 126 RX2 yX2_unevenness wsX2_unevenness) := goodIn_app (goodIn_of _ (by decide +kernel)) ggX4_uneven_X2_unevenness
theorem dX4_uneven_0 : decode cX4_uneven 0 = .ok (.iload_n 1, 1) := by decide +kernel
theorem dX4_uneven_1 : decode cX4_uneven 1 = .ok (.iconst 0, 1) := by decide +kernel
theorem dX4_uneven_2 : decode cX4_uneven 2 = .ok (.iconst 1, 1) := by decide +kernel
theorem dX4_uneven_3 : decode cX4_uneven 3 = .ok (.invokestatic 39, 3) := by decide +kernel
theorem dX4_uneven_6 : decode cX4_uneven 6 = .ok (.ifCond .ne 6, 3) := by decide +kernel
theorem dX4_uneven_9 : decode cX4_uneven 9 = .ok (.bipush (-2), 2) := by decide +kernel
theorem dX4_uneven_11 : decode cX4_uneven 11 = .ok (.ireturn, 1) := by decide +kernel
theorem dX4_uneven_12 : decode cX4_uneven 12 = .ok (.aload_n 0, 1) := by decide +kernel
theorem dX4_uneven_13 : decode cX4_uneven 13 = .ok (.getfield 19, 3) := by decide +kernel
theorem dX4_uneven_16 : decode cX4_uneven 16 = .ok (.iload_n 1, 1) := by decide +kernel
theorem dX4_uneven_17 : decode cX4_uneven 17 = .ok (.ifCond .ne 7, 3) := by decide +kernel
theorem dX4_uneven_20 : decode cX4_uneven 20 = .ok (.iconst 1, 1) := by decide +kernel
theorem dX4_uneven_21 : decode cX4_uneven 21 = .ok (.goto 4, 3) := by decide +kernel
theorem dX4_uneven_24 : decode cX4_uneven 24 = .ok (.iconst 0, 1) := by decide +kernel
theorem dX4_uneven_25 : decode cX4_uneven 25 = .ok (.invokevirtual 126, 3) := by decide +kernel
theorem dX4_uneven_28 : decode cX4_uneven 28 = .ok (.ireturn, 1) := by decide +kernel
set_option maxRecDepth 20000 in
theorem ggX4_best_X4_within : GoodIn wsX4_best wsX4_within := goodIn_r _ [5] (by decide +kernel) (by decide +kernel)
set_option maxRecDepth 20000 in
theorem gX4_best_X4_within : GoodIn wsX4_best (va_wsS RX4 39 yX4_within wsX4_within) := goodIn_app (goodIn_of _ (by decide +kernel)) ggX4_best_X4_within
set_option maxRecDepth 20000 in
theorem ggX4_best_X2_settle : GoodIn wsX4_best wsX2_settle := goodIn_r _ [10, 11, 12, 13, 14, 15, 9, 16, 17, 18, 19, 20, 21, 22, 23, 24, 25, 26, 27, 28, 29, 30, 31, 32, 33, 34, 35, 36, 37, 38, 39, 40, 41, 42, 43, 44, 45, 46, 47, 48, 49, 50, 51, 52, 53, 54, 55, 56, 57, 58, 59, 60, 61, 62, 63, 64, 65, 66, 67, 68, 69, 70, 71, 76, 77, 78, 79, 80, 81, 82, 83] (by decide +kernel) (by decide +kernel)
set_option maxRecDepth 20000 in
theorem gX4_best_X2_settle : GoodIn wsX4_best (wsV RX4 130 RX2 yX2_settle wsX2_settle) := goodIn_app (goodIn_of _ (by decide +kernel)) ggX4_best_X2_settle
theorem dX4_best_0 : decode cX4_best 0 = .ok (.iload_n 1, 1) := by decide +kernel
theorem dX4_best_1 : decode cX4_best 1 = .ok (.iconst 0, 1) := by decide +kernel
theorem dX4_best_2 : decode cX4_best 2 = .ok (.iconst 1, 1) := by decide +kernel
theorem dX4_best_3 : decode cX4_best 3 = .ok (.invokestatic 39, 3) := by decide +kernel
theorem dX4_best_6 : decode cX4_best 6 = .ok (.ifCond .ne 6, 3) := by decide +kernel
theorem dX4_best_9 : decode cX4_best 9 = .ok (.bipush (-2), 2) := by decide +kernel
theorem dX4_best_11 : decode cX4_best 11 = .ok (.ireturn, 1) := by decide +kernel
theorem dX4_best_12 : decode cX4_best 12 = .ok (.aload_n 0, 1) := by decide +kernel
theorem dX4_best_13 : decode cX4_best 13 = .ok (.getfield 19, 3) := by decide +kernel
theorem dX4_best_16 : decode cX4_best 16 = .ok (.iload_n 1, 1) := by decide +kernel
theorem dX4_best_17 : decode cX4_best 17 = .ok (.ifCond .ne 7, 3) := by decide +kernel
theorem dX4_best_20 : decode cX4_best 20 = .ok (.iconst 1, 1) := by decide +kernel
theorem dX4_best_21 : decode cX4_best 21 = .ok (.goto 4, 3) := by decide +kernel
theorem dX4_best_24 : decode cX4_best 24 = .ok (.iconst 0, 1) := by decide +kernel
theorem dX4_best_25 : decode cX4_best 25 = .ok (.invokevirtual 130, 3) := by decide +kernel
theorem dX4_best_28 : decode cX4_best 28 = .ok (.ireturn, 1) := by decide +kernel
set_option maxRecDepth 20000 in
theorem ggX4_kind_X4_within : GoodIn wsX4_kind wsX4_within := goodIn_r _ [5] (by decide +kernel) (by decide +kernel)
set_option maxRecDepth 20000 in
theorem gX4_kind_X4_within : GoodIn wsX4_kind (va_wsS RX4 39 yX4_within wsX4_within) := goodIn_app (goodIn_of _ (by decide +kernel)) ggX4_kind_X4_within
set_option maxRecDepth 20000 in
theorem ggX4_kind_X3_count : GoodIn wsX4_kind wsX3_count := goodIn_r _ [10, 11, 23, 24, 25, 26, 27, 28, 29] (by decide +kernel) (by decide +kernel)
set_option maxRecDepth 20000 in
theorem gX4_kind_X3_count : GoodIn wsX4_kind (wsV RX4 133 RX3 yX3_count wsX3_count) := goodIn_app (goodIn_of _ (by decide +kernel)) ggX4_kind_X3_count
set_option maxRecDepth 20000 in
theorem ggX4_kind_X3_add : GoodIn wsX4_kind wsX3_add := goodIn_r _ [15, 16, 11, 17, 18, 23, 24, 25, 26, 27, 28, 29] (by decide +kernel) (by decide +kernel)
set_option maxRecDepth 20000 in
theorem gX4_kind_X3_add : GoodIn wsX4_kind (wsV RX4 134 RX3 yX3_add wsX3_add) := goodIn_app (goodIn_of _ (by decide +kernel)) ggX4_kind_X3_add
theorem dX4_kind_0 : decode cX4_kind 0 = .ok (.iload_n 1, 1) := by decide +kernel
theorem dX4_kind_1 : decode cX4_kind 1 = .ok (.iconst 1, 1) := by decide +kernel
theorem dX4_kind_2 : decode cX4_kind 2 = .ok (.bipush 24, 2) := by decide +kernel
theorem dX4_kind_4 : decode cX4_kind 4 = .ok (.invokestatic 39, 3) := by decide +kernel
theorem dX4_kind_7 : decode cX4_kind 7 = .ok (.ifCond .eq 25, 3) := by decide +kernel
theorem dX4_kind_10 : decode cX4_kind 10 = .ok (.iload_n 2, 1) := by decide +kernel
theorem dX4_kind_11 : decode cX4_kind 11 = .ok (.iconst 1, 1) := by decide +kernel
theorem dX4_kind_12 : decode cX4_kind 12 = .ok (.sipush 1000, 3) := by decide +kernel
theorem dX4_kind_15 : decode cX4_kind 15 = .ok (.invokestatic 39, 3) := by decide +kernel
theorem dX4_kind_18 : decode cX4_kind 18 = .ok (.ifCond .eq 14, 3) := by decide +kernel
theorem dX4_kind_21 : decode cX4_kind 21 = .ok (.iload_n 3, 1) := by decide +kernel
theorem dX4_kind_22 : decode cX4_kind 22 = .ok (.iconst 0, 1) := by decide +kernel
theorem dX4_kind_23 : decode cX4_kind 23 = .ok (.sipush 2000, 3) := by decide +kernel
theorem dX4_kind_26 : decode cX4_kind 26 = .ok (.invokestatic 39, 3) := by decide +kernel
theorem dX4_kind_29 : decode cX4_kind 29 = .ok (.ifCond .ne 6, 3) := by decide +kernel
theorem dX4_kind_32 : decode cX4_kind 32 = .ok (.bipush (-2), 2) := by decide +kernel
theorem dX4_kind_34 : decode cX4_kind 34 = .ok (.ireturn, 1) := by decide +kernel
theorem dX4_kind_35 : decode cX4_kind 35 = .ok (.aload_n 0, 1) := by decide +kernel
theorem dX4_kind_36 : decode cX4_kind 36 = .ok (.getfield 28, 3) := by decide +kernel
theorem dX4_kind_39 : decode cX4_kind 39 = .ok (.invokevirtual 133, 3) := by decide +kernel
theorem dX4_kind_42 : decode cX4_kind 42 = .ok (.iconst 4, 1) := by decide +kernel
theorem dX4_kind_43 : decode cX4_kind 43 = .ok (.if_icmp .lt 6, 3) := by decide +kernel
theorem dX4_kind_46 : decode cX4_kind 46 = .ok (.bipush (-4), 2) := by decide +kernel
theorem dX4_kind_48 : decode cX4_kind 48 = .ok (.ireturn, 1) := by decide +kernel
theorem dX4_kind_49 : decode cX4_kind 49 = .ok (.aload_n 0, 1) := by decide +kernel
theorem dX4_kind_50 : decode cX4_kind 50 = .ok (.getfield 28, 3) := by decide +kernel
theorem dX4_kind_53 : decode cX4_kind 53 = .ok (.iload_n 1, 1) := by decide +kernel
theorem dX4_kind_54 : decode cX4_kind 54 = .ok (.iload_n 2, 1) := by decide +kernel
theorem dX4_kind_55 : decode cX4_kind 55 = .ok (.iload_n 3, 1) := by decide +kernel
theorem dX4_kind_56 : decode cX4_kind 56 = .ok (.invokevirtual 134, 3) := by decide +kernel
theorem dX4_kind_59 : decode cX4_kind 59 = .ok (.ireturn, 1) := by decide +kernel
set_option maxRecDepth 20000 in
theorem ggX4_canLie_X3_count : GoodIn wsX4_canLie wsX3_count := goodIn_r _ [6, 7, 51, 52, 53, 54, 55, 56, 57] (by decide +kernel) (by decide +kernel)
set_option maxRecDepth 20000 in
theorem gX4_canLie_X3_count : GoodIn wsX4_canLie (wsV RX4 133 RX3 yX3_count wsX3_count) := goodIn_app (goodIn_of _ (by decide +kernel)) ggX4_canLie_X3_count
set_option maxRecDepth 20000 in
theorem ggX4_canLie_X4_within : GoodIn wsX4_canLie wsX4_within := goodIn_r _ [11] (by decide +kernel) (by decide +kernel)
set_option maxRecDepth 20000 in
theorem gX4_canLie_X4_within : GoodIn wsX4_canLie (va_wsS RX4 39 yX4_within wsX4_within) := goodIn_app (goodIn_of _ (by decide +kernel)) ggX4_canLie_X4_within
set_option maxRecDepth 20000 in
theorem ggX4_canLie_X4_isPlace : GoodIn wsX4_canLie wsX4_isPlace := goodIn_r _ [15, 16, 17, 18, 19, 20, 21, 22, 8, 9, 10, 11, 47, 48, 49, 50, 58, 59, 60, 61, 62, 63, 64, 65] (by decide +kernel) (by decide +kernel)
set_option maxRecDepth 20000 in
theorem gX4_canLie_X4_isPlace : GoodIn wsX4_canLie (wsV RX4 55 RX4 yX4_isPlace wsX4_isPlace) := goodIn_app (goodIn_of _ (by decide +kernel)) ggX4_canLie_X4_isPlace
set_option maxRecDepth 20000 in
theorem ggX4_canLie_X3_lies : GoodIn wsX4_canLie wsX3_lies := goodIn_r _ [26, 27, 28, 29, 30, 18, 19, 20, 21, 22, 31, 32, 33, 34, 35, 36, 37, 38, 39, 40, 41, 42, 43, 44, 45, 46, 51, 52, 53, 54, 55, 56, 57, 58, 59, 60, 61, 62, 63, 64, 65] (by decide +kernel) (by decide +kernel)
set_option maxRecDepth 20000 in
theorem gX4_canLie_X3_lies : GoodIn wsX4_canLie (wsV RX4 137 RX3 yX3_lies wsX3_lies) := goodIn_app (goodIn_of _ (by decide +kernel)) ggX4_canLie_X3_lies
theorem dX4_canLie_0 : decode cX4_canLie 0 = .ok (.iload_n 1, 1) := by decide +kernel
theorem dX4_canLie_1 : decode cX4_canLie 1 = .ok (.iconst 0, 1) := by decide +kernel
theorem dX4_canLie_2 : decode cX4_canLie 2 = .ok (.aload_n 0, 1) := by decide +kernel
theorem dX4_canLie_3 : decode cX4_canLie 3 = .ok (.getfield 28, 3) := by decide +kernel
theorem dX4_canLie_6 : decode cX4_canLie 6 = .ok (.invokevirtual 133, 3) := by decide +kernel
theorem dX4_canLie_9 : decode cX4_canLie 9 = .ok (.iconst 1, 1) := by decide +kernel
theorem dX4_canLie_10 : decode cX4_canLie 10 = .ok (.isub, 1) := by decide +kernel
theorem dX4_canLie_11 : decode cX4_canLie 11 = .ok (.invokestatic 39, 3) := by decide +kernel
theorem dX4_canLie_14 : decode cX4_canLie 14 = .ok (.ifCond .eq 11, 3) := by decide +kernel
theorem dX4_canLie_17 : decode cX4_canLie 17 = .ok (.aload_n 0, 1) := by decide +kernel
theorem dX4_canLie_18 : decode cX4_canLie 18 = .ok (.iload_n 2, 1) := by decide +kernel
theorem dX4_canLie_19 : decode cX4_canLie 19 = .ok (.invokevirtual 55, 3) := by decide +kernel
theorem dX4_canLie_22 : decode cX4_canLie 22 = .ok (.ifCond .ne 5, 3) := by decide +kernel
theorem dX4_canLie_25 : decode cX4_canLie 25 = .ok (.iconst (-1), 1) := by decide +kernel
theorem dX4_canLie_26 : decode cX4_canLie 26 = .ok (.ireturn, 1) := by decide +kernel
theorem dX4_canLie_27 : decode cX4_canLie 27 = .ok (.aload_n 0, 1) := by decide +kernel
theorem dX4_canLie_28 : decode cX4_canLie 28 = .ok (.getfield 28, 3) := by decide +kernel
theorem dX4_canLie_31 : decode cX4_canLie 31 = .ok (.iload_n 1, 1) := by decide +kernel
theorem dX4_canLie_32 : decode cX4_canLie 32 = .ok (.iload_n 2, 1) := by decide +kernel
theorem dX4_canLie_33 : decode cX4_canLie 33 = .ok (.invokevirtual 137, 3) := by decide +kernel
theorem dX4_canLie_36 : decode cX4_canLie 36 = .ok (.ifCond .eq 7, 3) := by decide +kernel
theorem dX4_canLie_39 : decode cX4_canLie 39 = .ok (.iconst 1, 1) := by decide +kernel
theorem dX4_canLie_40 : decode cX4_canLie 40 = .ok (.goto 4, 3) := by decide +kernel
theorem dX4_canLie_43 : decode cX4_canLie 43 = .ok (.iconst 0, 1) := by decide +kernel
theorem dX4_canLie_44 : decode cX4_canLie 44 = .ok (.ireturn, 1) := by decide +kernel
set_option maxRecDepth 20000 in
theorem ggX4_cut_X3_plan : GoodIn wsX4_cut wsX3_plan := goodIn_r _ [6, 7, 8, 9, 10, 11, 12, 13, 14, 15, 16, 17, 5, 18, 19, 20, 21, 22, 23, 24, 25, 26, 27, 28, 29, 30, 31, 32, 33, 34, 35, 36, 37, 38, 39, 40, 41, 42, 43, 44, 45, 46, 47, 52, 53, 54, 55, 56, 57, 58, 59, 60, 61, 62, 63, 64, 65, 66] (by decide +kernel) (by decide +kernel)
set_option maxRecDepth 20000 in
theorem gX4_cut_X3_plan : GoodIn wsX4_cut (wsV RX4 140 RX3 yX3_plan wsX3_plan) := goodIn_app (goodIn_of _ (by decide +kernel)) ggX4_cut_X3_plan
theorem dX4_cut_0 : decode cX4_cut 0 = .ok (.aload_n 0, 1) := by decide +kernel
theorem dX4_cut_1 : decode cX4_cut 1 = .ok (.getfield 28, 3) := by decide +kernel
theorem dX4_cut_4 : decode cX4_cut 4 = .ok (.invokevirtual 140, 3) := by decide +kernel
theorem dX4_cut_7 : decode cX4_cut 7 = .ok (.ireturn, 1) := by decide +kernel
set_option maxRecDepth 20000 in
theorem ggX4_cutAt_X4_isPlace : GoodIn wsX4_cutAt wsX4_isPlace := goodIn_r _ [6, 7, 8, 9, 10, 11, 12, 13, 14, 15, 5, 16, 62, 63, 64, 65, 66, 67, 68, 69, 70, 71, 72, 73] (by decide +kernel) (by decide +kernel)
set_option maxRecDepth 20000 in
theorem gX4_cutAt_X4_isPlace : GoodIn wsX4_cutAt (wsV RX4 55 RX4 yX4_isPlace wsX4_isPlace) := goodIn_app (goodIn_of _ (by decide +kernel)) ggX4_cutAt_X4_isPlace
set_option maxRecDepth 20000 in
theorem ggX4_cutAt_X3_plan : GoodIn wsX4_cutAt wsX3_plan := goodIn_r _ [21, 22, 23, 24, 9, 10, 11, 12, 13, 25, 26, 27, 20, 28, 29, 30, 31, 32, 33, 34, 35, 36, 37, 38, 39, 40, 41, 42, 43, 44, 45, 46, 47, 48, 49, 50, 51, 52, 53, 54, 55, 56, 57, 74, 75, 76, 77, 78, 79, 80, 66, 67, 68, 69, 70, 71, 72, 73] (by decide +kernel) (by decide +kernel)
set_option maxRecDepth 20000 in
theorem gX4_cutAt_X3_plan : GoodIn wsX4_cutAt (wsV RX4 140 RX3 yX3_plan wsX3_plan) := goodIn_app (goodIn_of _ (by decide +kernel)) ggX4_cutAt_X3_plan
set_option maxRecDepth 20000 in
theorem ggX4_cutAt_X3_plannedAt : GoodIn wsX4_cutAt wsX3_plannedAt := goodIn_r _ [61, 32, 74, 75, 76, 77, 78, 79, 80] (by decide +kernel) (by decide +kernel)
set_option maxRecDepth 20000 in
theorem gX4_cutAt_X3_plannedAt : GoodIn wsX4_cutAt (wsV RX4 143 RX3 yX3_plannedAt wsX3_plannedAt) := goodIn_app (goodIn_of _ (by decide +kernel)) ggX4_cutAt_X3_plannedAt
theorem dX4_cutAt_0 : decode cX4_cutAt 0 = .ok (.aload_n 0, 1) := by decide +kernel
theorem dX4_cutAt_1 : decode cX4_cutAt 1 = .ok (.iload_n 1, 1) := by decide +kernel
theorem dX4_cutAt_2 : decode cX4_cutAt 2 = .ok (.invokevirtual 55, 3) := by decide +kernel
theorem dX4_cutAt_5 : decode cX4_cutAt 5 = .ok (.ifCond .ne 5, 3) := by decide +kernel
theorem dX4_cutAt_8 : decode cX4_cutAt 8 = .ok (.iconst (-1), 1) := by decide +kernel
theorem dX4_cutAt_9 : decode cX4_cutAt 9 = .ok (.ireturn, 1) := by decide +kernel
theorem dX4_cutAt_10 : decode cX4_cutAt 10 = .ok (.aload_n 0, 1) := by decide +kernel
theorem dX4_cutAt_11 : decode cX4_cutAt 11 = .ok (.getfield 28, 3) := by decide +kernel
theorem dX4_cutAt_14 : decode cX4_cutAt 14 = .ok (.invokevirtual 140, 3) := by decide +kernel
theorem dX4_cutAt_17 : decode cX4_cutAt 17 = .ok (.pop, 1) := by decide +kernel
theorem dX4_cutAt_18 : decode cX4_cutAt 18 = .ok (.aload_n 0, 1) := by decide +kernel
theorem dX4_cutAt_19 : decode cX4_cutAt 19 = .ok (.getfield 28, 3) := by decide +kernel
theorem dX4_cutAt_22 : decode cX4_cutAt 22 = .ok (.iload_n 1, 1) := by decide +kernel
theorem dX4_cutAt_23 : decode cX4_cutAt 23 = .ok (.invokevirtual 143, 3) := by decide +kernel
