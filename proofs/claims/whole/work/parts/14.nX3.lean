theorem dX3_init_0 : decode cX3_init 0 = .ok (.aload_n 0, 1) := by decide +kernel
theorem dX3_init_1 : decode cX3_init 1 = .ok (.invokespecial 3, 3) := by decide +kernel
theorem dX3_init_4 : decode cX3_init 4 = .ok (.aload_n 0, 1) := by decide +kernel
theorem dX3_init_5 : decode cX3_init 5 = .ok (.iconst 4, 1) := by decide +kernel
theorem dX3_init_6 : decode cX3_init 6 = .ok (.newarray .int, 2) := by decide +kernel
theorem dX3_init_8 : decode cX3_init 8 = .ok (.putfield 9, 3) := by decide +kernel
theorem dX3_init_11 : decode cX3_init 11 = .ok (.aload_n 0, 1) := by decide +kernel
theorem dX3_init_12 : decode cX3_init 12 = .ok (.iconst 4, 1) := by decide +kernel
theorem dX3_init_13 : decode cX3_init 13 = .ok (.newarray .int, 2) := by decide +kernel
theorem dX3_init_15 : decode cX3_init 15 = .ok (.putfield 15, 3) := by decide +kernel
theorem dX3_init_18 : decode cX3_init 18 = .ok (.aload_n 0, 1) := by decide +kernel
theorem dX3_init_19 : decode cX3_init 19 = .ok (.iconst 4, 1) := by decide +kernel
theorem dX3_init_20 : decode cX3_init 20 = .ok (.newarray .int, 2) := by decide +kernel
theorem dX3_init_22 : decode cX3_init 22 = .ok (.putfield 18, 3) := by decide +kernel
theorem dX3_init_25 : decode cX3_init 25 = .ok (.aload_n 0, 1) := by decide +kernel
theorem dX3_init_26 : decode cX3_init 26 = .ok (.bipush 25, 2) := by decide +kernel
theorem dX3_init_28 : decode cX3_init 28 = .ok (.newarray .int, 2) := by decide +kernel
theorem dX3_init_30 : decode cX3_init 30 = .ok (.putfield 21, 3) := by decide +kernel
theorem dX3_init_33 : decode cX3_init 33 = .ok (.aload_n 0, 1) := by decide +kernel
theorem dX3_init_34 : decode cX3_init 34 = .ok (.bipush 24, 2) := by decide +kernel
theorem dX3_init_36 : decode cX3_init 36 = .ok (.newarray .int, 2) := by decide +kernel
theorem dX3_init_38 : decode cX3_init 38 = .ok (.putfield 24, 3) := by decide +kernel
theorem dX3_init_41 : decode cX3_init 41 = .ok (.aload_n 0, 1) := by decide +kernel
theorem dX3_init_42 : decode cX3_init 42 = .ok (.aload_n 1, 1) := by decide +kernel
theorem dX3_init_43 : decode cX3_init 43 = .ok (.putfield 27, 3) := by decide +kernel
theorem dX3_init_46 : decode cX3_init 46 = .ok (.return_, 1) := by decide +kernel
theorem dX3_forget_0 : decode cX3_forget 0 = .ok (.aload_n 0, 1) := by decide +kernel
theorem dX3_forget_1 : decode cX3_forget 1 = .ok (.iconst 0, 1) := by decide +kernel
theorem dX3_forget_2 : decode cX3_forget 2 = .ok (.putfield 31, 3) := by decide +kernel
theorem dX3_forget_5 : decode cX3_forget 5 = .ok (.return_, 1) := by decide +kernel
theorem dX3_count_0 : decode cX3_count 0 = .ok (.aload_n 0, 1) := by decide +kernel
theorem dX3_count_1 : decode cX3_count 1 = .ok (.getfield 31, 3) := by decide +kernel
theorem dX3_count_4 : decode cX3_count 4 = .ok (.ireturn, 1) := by decide +kernel
theorem dX3_add_0 : decode cX3_add 0 = .ok (.aload_n 0, 1) := by decide +kernel
theorem dX3_add_1 : decode cX3_add 1 = .ok (.getfield 9, 3) := by decide +kernel
theorem dX3_add_4 : decode cX3_add 4 = .ok (.aload_n 0, 1) := by decide +kernel
theorem dX3_add_5 : decode cX3_add 5 = .ok (.getfield 31, 3) := by decide +kernel
theorem dX3_add_8 : decode cX3_add 8 = .ok (.iload_n 1, 1) := by decide +kernel
theorem dX3_add_9 : decode cX3_add 9 = .ok (.iastore, 1) := by decide +kernel
theorem dX3_add_10 : decode cX3_add 10 = .ok (.aload_n 0, 1) := by decide +kernel
theorem dX3_add_11 : decode cX3_add 11 = .ok (.getfield 15, 3) := by decide +kernel
theorem dX3_add_14 : decode cX3_add 14 = .ok (.aload_n 0, 1) := by decide +kernel
theorem dX3_add_15 : decode cX3_add 15 = .ok (.getfield 31, 3) := by decide +kernel
theorem dX3_add_18 : decode cX3_add 18 = .ok (.iload_n 2, 1) := by decide +kernel
theorem dX3_add_19 : decode cX3_add 19 = .ok (.iastore, 1) := by decide +kernel
theorem dX3_add_20 : decode cX3_add 20 = .ok (.aload_n 0, 1) := by decide +kernel
theorem dX3_add_21 : decode cX3_add 21 = .ok (.getfield 18, 3) := by decide +kernel
theorem dX3_add_24 : decode cX3_add 24 = .ok (.aload_n 0, 1) := by decide +kernel
theorem dX3_add_25 : decode cX3_add 25 = .ok (.getfield 31, 3) := by decide +kernel
theorem dX3_add_28 : decode cX3_add 28 = .ok (.iload_n 3, 1) := by decide +kernel
theorem dX3_add_29 : decode cX3_add 29 = .ok (.iastore, 1) := by decide +kernel
theorem dX3_add_30 : decode cX3_add 30 = .ok (.aload_n 0, 1) := by decide +kernel
theorem dX3_add_31 : decode cX3_add 31 = .ok (.dup, 1) := by decide +kernel
theorem dX3_add_32 : decode cX3_add 32 = .ok (.getfield 31, 3) := by decide +kernel
theorem dX3_add_35 : decode cX3_add 35 = .ok (.iconst 1, 1) := by decide +kernel
theorem dX3_add_36 : decode cX3_add 36 = .ok (.iadd, 1) := by decide +kernel
theorem dX3_add_37 : decode cX3_add 37 = .ok (.putfield 31, 3) := by decide +kernel
theorem dX3_add_40 : decode cX3_add 40 = .ok (.aload_n 0, 1) := by decide +kernel
theorem dX3_add_41 : decode cX3_add 41 = .ok (.getfield 31, 3) := by decide +kernel
theorem dX3_add_44 : decode cX3_add 44 = .ok (.iconst 1, 1) := by decide +kernel
theorem dX3_add_45 : decode cX3_add 45 = .ok (.isub, 1) := by decide +kernel
theorem dX3_add_46 : decode cX3_add 46 = .ok (.ireturn, 1) := by decide +kernel
set_option maxRecDepth 20000 in
theorem ggX3_lies_X2_places : GoodIn wsX3_lies wsX2_places := goodIn_r _ [8, 9, 33, 34, 35, 36, 37, 38, 39, 40] (by decide +kernel) (by decide +kernel)
set_option maxRecDepth 20000 in
theorem gX3_lies_X2_places : GoodIn wsX3_lies (wsV RX3 35 RX2 yX2_places wsX2_places) := goodIn_app (goodIn_of _ (by decide +kernel)) ggX3_lies_X2_places
set_option maxRecDepth 20000 in
theorem ggX3_lies_X2_sizeOf : GoodIn wsX3_lies wsX2_sizeOf := goodIn_r _ [13, 14, 15, 16, 17, 18, 19, 20, 7, 21, 22, 23, 24, 25, 9, 33, 34, 35, 36, 37, 38, 39, 40] (by decide +kernel) (by decide +kernel)
set_option maxRecDepth 20000 in
theorem gX3_lies_X2_sizeOf : GoodIn wsX3_lies (wsV RX3 41 RX2 yX2_sizeOf wsX2_sizeOf) := goodIn_app (goodIn_of _ (by decide +kernel)) ggX3_lies_X2_sizeOf
theorem dX3_lies_0 : decode cX3_lies 0 = .ok (.iload_n 2, 1) := by decide +kernel
theorem dX3_lies_1 : decode cX3_lies 1 = .ok (.aload_n 0, 1) := by decide +kernel
theorem dX3_lies_2 : decode cX3_lies 2 = .ok (.getfield 9, 3) := by decide +kernel
theorem dX3_lies_5 : decode cX3_lies 5 = .ok (.iload_n 1, 1) := by decide +kernel
theorem dX3_lies_6 : decode cX3_lies 6 = .ok (.iaload, 1) := by decide +kernel
theorem dX3_lies_7 : decode cX3_lies 7 = .ok (.iadd, 1) := by decide +kernel
theorem dX3_lies_8 : decode cX3_lies 8 = .ok (.istore_n 3, 1) := by decide +kernel
theorem dX3_lies_9 : decode cX3_lies 9 = .ok (.iload_n 3, 1) := by decide +kernel
theorem dX3_lies_10 : decode cX3_lies 10 = .ok (.aload_n 0, 1) := by decide +kernel
theorem dX3_lies_11 : decode cX3_lies 11 = .ok (.getfield 27, 3) := by decide +kernel
theorem dX3_lies_14 : decode cX3_lies 14 = .ok (.invokevirtual 35, 3) := by decide +kernel
theorem dX3_lies_17 : decode cX3_lies 17 = .ok (.if_icmp .le 5, 3) := by decide +kernel
theorem dX3_lies_20 : decode cX3_lies 20 = .ok (.iconst 0, 1) := by decide +kernel
theorem dX3_lies_21 : decode cX3_lies 21 = .ok (.ireturn, 1) := by decide +kernel
theorem dX3_lies_22 : decode cX3_lies 22 = .ok (.iload_n 2, 1) := by decide +kernel
theorem dX3_lies_23 : decode cX3_lies 23 = .ok (.istore 4, 2) := by decide +kernel
theorem dX3_lies_25 : decode cX3_lies 25 = .ok (.iload 4, 2) := by decide +kernel
theorem dX3_lies_27 : decode cX3_lies 27 = .ok (.iload_n 3, 1) := by decide +kernel
theorem dX3_lies_28 : decode cX3_lies 28 = .ok (.if_icmp .ge 29, 3) := by decide +kernel
theorem dX3_lies_31 : decode cX3_lies 31 = .ok (.aload_n 0, 1) := by decide +kernel
theorem dX3_lies_32 : decode cX3_lies 32 = .ok (.getfield 27, 3) := by decide +kernel
theorem dX3_lies_35 : decode cX3_lies 35 = .ok (.iload 4, 2) := by decide +kernel
theorem dX3_lies_37 : decode cX3_lies 37 = .ok (.invokevirtual 41, 3) := by decide +kernel
theorem dX3_lies_40 : decode cX3_lies 40 = .ok (.aload_n 0, 1) := by decide +kernel
theorem dX3_lies_41 : decode cX3_lies 41 = .ok (.getfield 18, 3) := by decide +kernel
theorem dX3_lies_44 : decode cX3_lies 44 = .ok (.iload_n 1, 1) := by decide +kernel
theorem dX3_lies_45 : decode cX3_lies 45 = .ok (.iaload, 1) := by decide +kernel
theorem dX3_lies_46 : decode cX3_lies 46 = .ok (.if_icmp .le 5, 3) := by decide +kernel
theorem dX3_lies_49 : decode cX3_lies 49 = .ok (.iconst 0, 1) := by decide +kernel
theorem dX3_lies_50 : decode cX3_lies 50 = .ok (.ireturn, 1) := by decide +kernel
theorem dX3_lies_51 : decode cX3_lies 51 = .ok (.iinc 4 1, 3) := by decide +kernel
theorem dX3_lies_54 : decode cX3_lies 54 = .ok (.goto (-29), 3) := by decide +kernel
theorem dX3_lies_57 : decode cX3_lies 57 = .ok (.iconst 1, 1) := by decide +kernel
theorem dX3_lies_58 : decode cX3_lies 58 = .ok (.ireturn, 1) := by decide +kernel
set_option maxRecDepth 20000 in
theorem ggX3_plan_X2_places : GoodIn wsX3_plan wsX2_places := goodIn_r _ [7, 8, 50, 51, 52, 53, 54, 55, 56, 57] (by decide +kernel) (by decide +kernel)
set_option maxRecDepth 20000 in
theorem gX3_plan_X2_places : GoodIn wsX3_plan (wsV RX3 35 RX2 yX2_places wsX2_places) := goodIn_app (goodIn_of _ (by decide +kernel)) ggX3_plan_X2_places
set_option maxRecDepth 20000 in
theorem ggX3_plan_X3_weigh : GoodIn wsX3_plan wsX3_weigh := goodIn_r _ [13, 2, 14, 15, 16, 17, 18, 19, 20, 12, 21, 1, 22, 3, 4, 5, 6, 7, 8, 23, 24, 25, 26, 27, 28, 29, 30, 31, 32, 33, 34, 35, 36, 37, 38, 43, 44, 45, 46, 47, 48, 49, 50, 51, 52, 53, 54, 55, 56, 57] (by decide +kernel) (by decide +kernel)
set_option maxRecDepth 20000 in
theorem gX3_plan_X3_weigh : GoodIn wsX3_plan (wsV RX3 45 RX3 yX3_weigh wsX3_weigh) := goodIn_app (goodIn_of _ (by decide +kernel)) ggX3_plan_X3_weigh
set_option maxRecDepth 20000 in
theorem ggX3_plan_X3_dropCovered : GoodIn wsX3_plan wsX3_dropCovered := goodIn_r _ [42, 17, 16, 43, 44, 45, 46, 47, 48, 49] (by decide +kernel) (by decide +kernel)
set_option maxRecDepth 20000 in
theorem gX3_plan_X3_dropCovered : GoodIn wsX3_plan (wsV RX3 49 RX3 yX3_dropCovered wsX3_dropCovered) := goodIn_app (goodIn_of _ (by decide +kernel)) ggX3_plan_X3_dropCovered
theorem dX3_plan_0 : decode cX3_plan 0 = .ok (.aload_n 0, 1) := by decide +kernel
theorem dX3_plan_1 : decode cX3_plan 1 = .ok (.getfield 27, 3) := by decide +kernel
theorem dX3_plan_4 : decode cX3_plan 4 = .ok (.invokevirtual 35, 3) := by decide +kernel
theorem dX3_plan_7 : decode cX3_plan 7 = .ok (.istore_n 1, 1) := by decide +kernel
theorem dX3_plan_8 : decode cX3_plan 8 = .ok (.aload_n 0, 1) := by decide +kernel
theorem dX3_plan_9 : decode cX3_plan 9 = .ok (.getfield 21, 3) := by decide +kernel
theorem dX3_plan_12 : decode cX3_plan 12 = .ok (.iload_n 1, 1) := by decide +kernel
theorem dX3_plan_13 : decode cX3_plan 13 = .ok (.iconst 0, 1) := by decide +kernel
theorem dX3_plan_14 : decode cX3_plan 14 = .ok (.iastore, 1) := by decide +kernel
theorem dX3_plan_15 : decode cX3_plan 15 = .ok (.iload_n 1, 1) := by decide +kernel
theorem dX3_plan_16 : decode cX3_plan 16 = .ok (.iconst 1, 1) := by decide +kernel
theorem dX3_plan_17 : decode cX3_plan 17 = .ok (.isub, 1) := by decide +kernel
theorem dX3_plan_18 : decode cX3_plan 18 = .ok (.istore_n 2, 1) := by decide +kernel
theorem dX3_plan_19 : decode cX3_plan 19 = .ok (.iload_n 2, 1) := by decide +kernel
theorem dX3_plan_20 : decode cX3_plan 20 = .ok (.ifCond .lt 14, 3) := by decide +kernel
theorem dX3_plan_23 : decode cX3_plan 23 = .ok (.aload_n 0, 1) := by decide +kernel
theorem dX3_plan_24 : decode cX3_plan 24 = .ok (.iload_n 2, 1) := by decide +kernel
theorem dX3_plan_25 : decode cX3_plan 25 = .ok (.invokevirtual 45, 3) := by decide +kernel
theorem dX3_plan_28 : decode cX3_plan 28 = .ok (.iinc 2 (-1), 3) := by decide +kernel
theorem dX3_plan_31 : decode cX3_plan 31 = .ok (.goto (-12), 3) := by decide +kernel
theorem dX3_plan_34 : decode cX3_plan 34 = .ok (.aload_n 0, 1) := by decide +kernel
theorem dX3_plan_35 : decode cX3_plan 35 = .ok (.iload_n 1, 1) := by decide +kernel
theorem dX3_plan_36 : decode cX3_plan 36 = .ok (.invokevirtual 49, 3) := by decide +kernel
theorem dX3_plan_39 : decode cX3_plan 39 = .ok (.aload_n 0, 1) := by decide +kernel
theorem dX3_plan_40 : decode cX3_plan 40 = .ok (.getfield 21, 3) := by decide +kernel
theorem dX3_plan_43 : decode cX3_plan 43 = .ok (.iconst 0, 1) := by decide +kernel
theorem dX3_plan_44 : decode cX3_plan 44 = .ok (.iaload, 1) := by decide +kernel
theorem dX3_plan_45 : decode cX3_plan 45 = .ok (.ireturn, 1) := by decide +kernel
set_option maxRecDepth 20000 in
theorem ggX3_weigh_X3_lies : GoodIn wsX3_weigh wsX3_lies := goodIn_r _ [10, 4, 11, 12, 13, 14, 15, 16, 17, 18, 19, 20, 21, 22, 23, 24, 25, 26, 27, 28, 29, 30, 31, 32, 33, 34, 35, 36, 37, 38, 39, 40, 41, 42, 43, 44, 45, 46, 47, 48, 49] (by decide +kernel) (by decide +kernel)
set_option maxRecDepth 20000 in
theorem gX3_weigh_X3_lies : GoodIn wsX3_weigh (wsV RX3 52 RX3 yX3_lies wsX3_lies) := goodIn_app (goodIn_of _ (by decide +kernel)) ggX3_weigh_X3_lies
theorem dX3_weigh_0 : decode cX3_weigh 0 = .ok (.aload_n 0, 1) := by decide +kernel
theorem dX3_weigh_1 : decode cX3_weigh 1 = .ok (.getfield 21, 3) := by decide +kernel
theorem dX3_weigh_4 : decode cX3_weigh 4 = .ok (.iload_n 1, 1) := by decide +kernel
theorem dX3_weigh_5 : decode cX3_weigh 5 = .ok (.iconst 1, 1) := by decide +kernel
theorem dX3_weigh_6 : decode cX3_weigh 6 = .ok (.iadd, 1) := by decide +kernel
theorem dX3_weigh_7 : decode cX3_weigh 7 = .ok (.iaload, 1) := by decide +kernel
theorem dX3_weigh_8 : decode cX3_weigh 8 = .ok (.istore_n 2, 1) := by decide +kernel
theorem dX3_weigh_9 : decode cX3_weigh 9 = .ok (.bipush (-6), 2) := by decide +kernel
theorem dX3_weigh_11 : decode cX3_weigh 11 = .ok (.istore_n 3, 1) := by decide +kernel
theorem dX3_weigh_12 : decode cX3_weigh 12 = .ok (.iconst 0, 1) := by decide +kernel
theorem dX3_weigh_13 : decode cX3_weigh 13 = .ok (.istore 4, 2) := by decide +kernel
theorem dX3_weigh_15 : decode cX3_weigh 15 = .ok (.iload 4, 2) := by decide +kernel
theorem dX3_weigh_17 : decode cX3_weigh 17 = .ok (.aload_n 0, 1) := by decide +kernel
theorem dX3_weigh_18 : decode cX3_weigh 18 = .ok (.getfield 31, 3) := by decide +kernel
theorem dX3_weigh_21 : decode cX3_weigh 21 = .ok (.if_icmp .ge 67, 3) := by decide +kernel
theorem dX3_weigh_24 : decode cX3_weigh 24 = .ok (.aload_n 0, 1) := by decide +kernel
theorem dX3_weigh_25 : decode cX3_weigh 25 = .ok (.iload 4, 2) := by decide +kernel
theorem dX3_weigh_27 : decode cX3_weigh 27 = .ok (.iload_n 1, 1) := by decide +kernel
theorem dX3_weigh_28 : decode cX3_weigh 28 = .ok (.invokevirtual 52, 3) := by decide +kernel
theorem dX3_weigh_31 : decode cX3_weigh 31 = .ok (.ifCond .eq 51, 3) := by decide +kernel
theorem dX3_weigh_34 : decode cX3_weigh 34 = .ok (.aload_n 0, 1) := by decide +kernel
theorem dX3_weigh_35 : decode cX3_weigh 35 = .ok (.getfield 15, 3) := by decide +kernel
theorem dX3_weigh_38 : decode cX3_weigh 38 = .ok (.iload 4, 2) := by decide +kernel
theorem dX3_weigh_40 : decode cX3_weigh 40 = .ok (.iaload, 1) := by decide +kernel
theorem dX3_weigh_41 : decode cX3_weigh 41 = .ok (.aload_n 0, 1) := by decide +kernel
theorem dX3_weigh_42 : decode cX3_weigh 42 = .ok (.getfield 21, 3) := by decide +kernel
theorem dX3_weigh_45 : decode cX3_weigh 45 = .ok (.iload_n 1, 1) := by decide +kernel
theorem dX3_weigh_46 : decode cX3_weigh 46 = .ok (.aload_n 0, 1) := by decide +kernel
theorem dX3_weigh_47 : decode cX3_weigh 47 = .ok (.getfield 9, 3) := by decide +kernel
theorem dX3_weigh_50 : decode cX3_weigh 50 = .ok (.iload 4, 2) := by decide +kernel
theorem dX3_weigh_52 : decode cX3_weigh 52 = .ok (.iaload, 1) := by decide +kernel
theorem dX3_weigh_53 : decode cX3_weigh 53 = .ok (.iadd, 1) := by decide +kernel
theorem dX3_weigh_54 : decode cX3_weigh 54 = .ok (.iaload, 1) := by decide +kernel
theorem dX3_weigh_55 : decode cX3_weigh 55 = .ok (.iadd, 1) := by decide +kernel
theorem dX3_weigh_56 : decode cX3_weigh 56 = .ok (.istore 5, 2) := by decide +kernel
theorem dX3_weigh_58 : decode cX3_weigh 58 = .ok (.iload 5, 2) := by decide +kernel
theorem dX3_weigh_60 : decode cX3_weigh 60 = .ok (.iload_n 2, 1) := by decide +kernel
theorem dX3_weigh_61 : decode cX3_weigh 61 = .ok (.if_icmp .gt 15, 3) := by decide +kernel
theorem dX3_weigh_64 : decode cX3_weigh 64 = .ok (.iload 5, 2) := by decide +kernel
theorem dX3_weigh_66 : decode cX3_weigh 66 = .ok (.iload_n 2, 1) := by decide +kernel
theorem dX3_weigh_67 : decode cX3_weigh 67 = .ok (.if_icmp .ne 15, 3) := by decide +kernel
theorem dX3_weigh_70 : decode cX3_weigh 70 = .ok (.iload_n 3, 1) := by decide +kernel
theorem dX3_weigh_71 : decode cX3_weigh 71 = .ok (.bipush (-6), 2) := by decide +kernel
theorem dX3_weigh_73 : decode cX3_weigh 73 = .ok (.if_icmp .ne 9, 3) := by decide +kernel
theorem dX3_weigh_76 : decode cX3_weigh 76 = .ok (.iload 5, 2) := by decide +kernel
theorem dX3_weigh_78 : decode cX3_weigh 78 = .ok (.istore_n 2, 1) := by decide +kernel
theorem dX3_weigh_79 : decode cX3_weigh 79 = .ok (.iload 4, 2) := by decide +kernel
theorem dX3_weigh_81 : decode cX3_weigh 81 = .ok (.istore_n 3, 1) := by decide +kernel
theorem dX3_weigh_82 : decode cX3_weigh 82 = .ok (.iinc 4 1, 3) := by decide +kernel
theorem dX3_weigh_85 : decode cX3_weigh 85 = .ok (.goto (-70), 3) := by decide +kernel
theorem dX3_weigh_88 : decode cX3_weigh 88 = .ok (.aload_n 0, 1) := by decide +kernel
theorem dX3_weigh_89 : decode cX3_weigh 89 = .ok (.getfield 21, 3) := by decide +kernel
theorem dX3_weigh_92 : decode cX3_weigh 92 = .ok (.iload_n 1, 1) := by decide +kernel
theorem dX3_weigh_93 : decode cX3_weigh 93 = .ok (.iload_n 2, 1) := by decide +kernel
theorem dX3_weigh_94 : decode cX3_weigh 94 = .ok (.iastore, 1) := by decide +kernel
theorem dX3_weigh_95 : decode cX3_weigh 95 = .ok (.aload_n 0, 1) := by decide +kernel
theorem dX3_weigh_96 : decode cX3_weigh 96 = .ok (.getfield 24, 3) := by decide +kernel
theorem dX3_weigh_99 : decode cX3_weigh 99 = .ok (.iload_n 1, 1) := by decide +kernel
theorem dX3_weigh_100 : decode cX3_weigh 100 = .ok (.iload_n 3, 1) := by decide +kernel
theorem dX3_weigh_101 : decode cX3_weigh 101 = .ok (.iastore, 1) := by decide +kernel
theorem dX3_weigh_102 : decode cX3_weigh 102 = .ok (.return_, 1) := by decide +kernel
theorem dX3_dropCovered_0 : decode cX3_dropCovered 0 = .ok (.iconst 0, 1) := by decide +kernel
theorem dX3_dropCovered_1 : decode cX3_dropCovered 1 = .ok (.istore_n 2, 1) := by decide +kernel
theorem dX3_dropCovered_2 : decode cX3_dropCovered 2 = .ok (.iconst 0, 1) := by decide +kernel
theorem dX3_dropCovered_3 : decode cX3_dropCovered 3 = .ok (.istore_n 3, 1) := by decide +kernel
theorem dX3_dropCovered_4 : decode cX3_dropCovered 4 = .ok (.iload_n 3, 1) := by decide +kernel
theorem dX3_dropCovered_5 : decode cX3_dropCovered 5 = .ok (.iload_n 1, 1) := by decide +kernel
theorem dX3_dropCovered_6 : decode cX3_dropCovered 6 = .ok (.if_icmp .ge 50, 3) := by decide +kernel
theorem dX3_dropCovered_9 : decode cX3_dropCovered 9 = .ok (.iload_n 3, 1) := by decide +kernel
theorem dX3_dropCovered_10 : decode cX3_dropCovered 10 = .ok (.iload_n 2, 1) := by decide +kernel
theorem dX3_dropCovered_11 : decode cX3_dropCovered 11 = .ok (.if_icmp .ge 14, 3) := by decide +kernel
theorem dX3_dropCovered_14 : decode cX3_dropCovered 14 = .ok (.aload_n 0, 1) := by decide +kernel
theorem dX3_dropCovered_15 : decode cX3_dropCovered 15 = .ok (.getfield 24, 3) := by decide +kernel
theorem dX3_dropCovered_18 : decode cX3_dropCovered 18 = .ok (.iload_n 3, 1) := by decide +kernel
theorem dX3_dropCovered_19 : decode cX3_dropCovered 19 = .ok (.bipush (-6), 2) := by decide +kernel
theorem dX3_dropCovered_21 : decode cX3_dropCovered 21 = .ok (.iastore, 1) := by decide +kernel
theorem dX3_dropCovered_22 : decode cX3_dropCovered 22 = .ok (.goto 28, 3) := by decide +kernel
theorem dX3_dropCovered_25 : decode cX3_dropCovered 25 = .ok (.aload_n 0, 1) := by decide +kernel
theorem dX3_dropCovered_26 : decode cX3_dropCovered 26 = .ok (.getfield 24, 3) := by decide +kernel
theorem dX3_dropCovered_29 : decode cX3_dropCovered 29 = .ok (.iload_n 3, 1) := by decide +kernel
theorem dX3_dropCovered_30 : decode cX3_dropCovered 30 = .ok (.iaload, 1) := by decide +kernel
theorem dX3_dropCovered_31 : decode cX3_dropCovered 31 = .ok (.bipush (-6), 2) := by decide +kernel
theorem dX3_dropCovered_33 : decode cX3_dropCovered 33 = .ok (.if_icmp .eq 17, 3) := by decide +kernel
theorem dX3_dropCovered_36 : decode cX3_dropCovered 36 = .ok (.iload_n 3, 1) := by decide +kernel
theorem dX3_dropCovered_37 : decode cX3_dropCovered 37 = .ok (.aload_n 0, 1) := by decide +kernel
theorem dX3_dropCovered_38 : decode cX3_dropCovered 38 = .ok (.getfield 9, 3) := by decide +kernel
theorem dX3_dropCovered_41 : decode cX3_dropCovered 41 = .ok (.aload_n 0, 1) := by decide +kernel
theorem dX3_dropCovered_42 : decode cX3_dropCovered 42 = .ok (.getfield 24, 3) := by decide +kernel
theorem dX3_dropCovered_45 : decode cX3_dropCovered 45 = .ok (.iload_n 3, 1) := by decide +kernel
theorem dX3_dropCovered_46 : decode cX3_dropCovered 46 = .ok (.iaload, 1) := by decide +kernel
theorem dX3_dropCovered_47 : decode cX3_dropCovered 47 = .ok (.iaload, 1) := by decide +kernel
theorem dX3_dropCovered_48 : decode cX3_dropCovered 48 = .ok (.iadd, 1) := by decide +kernel
theorem dX3_dropCovered_49 : decode cX3_dropCovered 49 = .ok (.istore_n 2, 1) := by decide +kernel
theorem dX3_dropCovered_50 : decode cX3_dropCovered 50 = .ok (.iinc 3 1, 3) := by decide +kernel
theorem dX3_dropCovered_53 : decode cX3_dropCovered 53 = .ok (.goto (-49), 3) := by decide +kernel
theorem dX3_dropCovered_56 : decode cX3_dropCovered 56 = .ok (.return_, 1) := by decide +kernel
theorem dX3_plannedAt_0 : decode cX3_plannedAt 0 = .ok (.aload_n 0, 1) := by decide +kernel
theorem dX3_plannedAt_1 : decode cX3_plannedAt 1 = .ok (.getfield 24, 3) := by decide +kernel
theorem dX3_plannedAt_4 : decode cX3_plannedAt 4 = .ok (.iload_n 1, 1) := by decide +kernel
theorem dX3_plannedAt_5 : decode cX3_plannedAt 5 = .ok (.iaload, 1) := by decide +kernel
theorem dX3_plannedAt_6 : decode cX3_plannedAt 6 = .ok (.ireturn, 1) := by decide +kernel
