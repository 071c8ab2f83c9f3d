theorem dX4_cutAt_26 : decode cX4_cutAt 26 = .ok (.ireturn, 1) := by decide +kernel
set_option maxRecDepth 20000 in
theorem ggX4_grade_X1_count : GoodIn wsX4_grade wsX1_count := goodIn_r _ [6, 7, 17, 18, 19, 20] (by decide +kernel) (by decide +kernel)
set_option maxRecDepth 20000 in
theorem gX4_grade_X1_count : GoodIn wsX4_grade (wsV RX4 146 RX1 yX1_count wsX1_count) := goodIn_app (goodIn_of _ (by decide +kernel)) ggX4_grade_X1_count
set_option maxRecDepth 20000 in
theorem ggX4_grade_X1_add : GoodIn wsX4_grade wsX1_add := goodIn_r _ [11, 12, 7, 17, 18, 19, 20] (by decide +kernel) (by decide +kernel)
set_option maxRecDepth 20000 in
theorem gX4_grade_X1_add : GoodIn wsX4_grade (wsV RX4 147 RX1 yX1_add wsX1_add) := goodIn_app (goodIn_of _ (by decide +kernel)) ggX4_grade_X1_add
theorem dX4_grade_0 : decode cX4_grade 0 = .ok (.aload_n 0, 1) := by decide +kernel
theorem dX4_grade_1 : decode cX4_grade 1 = .ok (.getfield 35, 3) := by decide +kernel
theorem dX4_grade_4 : decode cX4_grade 4 = .ok (.invokevirtual 146, 3) := by decide +kernel
theorem dX4_grade_7 : decode cX4_grade 7 = .ok (.bipush 9, 2) := by decide +kernel
theorem dX4_grade_9 : decode cX4_grade 9 = .ok (.if_icmp .lt 6, 3) := by decide +kernel
theorem dX4_grade_12 : decode cX4_grade 12 = .ok (.bipush (-4), 2) := by decide +kernel
theorem dX4_grade_14 : decode cX4_grade 14 = .ok (.ireturn, 1) := by decide +kernel
theorem dX4_grade_15 : decode cX4_grade 15 = .ok (.aload_n 0, 1) := by decide +kernel
theorem dX4_grade_16 : decode cX4_grade 16 = .ok (.getfield 35, 3) := by decide +kernel
theorem dX4_grade_19 : decode cX4_grade 19 = .ok (.invokevirtual 147, 3) := by decide +kernel
theorem dX4_grade_22 : decode cX4_grade 22 = .ok (.ireturn, 1) := by decide +kernel
set_option maxRecDepth 20000 in
theorem ggX4_cost_X4_isGrade : GoodIn wsX4_cost wsX4_isGrade := goodIn_r _ [6, 1, 7, 8, 9, 10, 11, 12, 13, 14, 5, 15, 26, 27, 28, 29, 30, 31, 32, 33] (by decide +kernel) (by decide +kernel)
set_option maxRecDepth 20000 in
theorem gX4_cost_X4_isGrade : GoodIn wsX4_cost (wsV RX4 149 RX4 yX4_isGrade wsX4_isGrade) := goodIn_app (goodIn_of _ (by decide +kernel)) ggX4_cost_X4_isGrade
set_option maxRecDepth 20000 in
theorem ggX4_cost_X4_within : GoodIn wsX4_cost wsX4_within := goodIn_r _ [15] (by decide +kernel) (by decide +kernel)
set_option maxRecDepth 20000 in
theorem gX4_cost_X4_within : GoodIn wsX4_cost (va_wsS RX4 39 yX4_within wsX4_within) := goodIn_app (goodIn_of _ (by decide +kernel)) ggX4_cost_X4_within
set_option maxRecDepth 20000 in
theorem ggX4_cost_X1_putCost : GoodIn wsX4_cost wsX1_putCost := goodIn_r _ [19, 20, 21, 22, 23, 24, 10, 25, 30, 31, 32, 33] (by decide +kernel) (by decide +kernel)
set_option maxRecDepth 20000 in
theorem gX4_cost_X1_putCost : GoodIn wsX4_cost (wsV RX4 152 RX1 yX1_putCost wsX1_putCost) := goodIn_app (goodIn_of _ (by decide +kernel)) ggX4_cost_X1_putCost
theorem dX4_cost_0 : decode cX4_cost 0 = .ok (.aload_n 0, 1) := by decide +kernel
theorem dX4_cost_1 : decode cX4_cost 1 = .ok (.iload_n 1, 1) := by decide +kernel
theorem dX4_cost_2 : decode cX4_cost 2 = .ok (.invokevirtual 149, 3) := by decide +kernel
theorem dX4_cost_5 : decode cX4_cost 5 = .ok (.ifCond .eq 11, 3) := by decide +kernel
theorem dX4_cost_8 : decode cX4_cost 8 = .ok (.aload_n 0, 1) := by decide +kernel
theorem dX4_cost_9 : decode cX4_cost 9 = .ok (.iload_n 2, 1) := by decide +kernel
theorem dX4_cost_10 : decode cX4_cost 10 = .ok (.invokevirtual 149, 3) := by decide +kernel
theorem dX4_cost_13 : decode cX4_cost 13 = .ok (.ifCond .ne 5, 3) := by decide +kernel
theorem dX4_cost_16 : decode cX4_cost 16 = .ok (.iconst (-1), 1) := by decide +kernel
theorem dX4_cost_17 : decode cX4_cost 17 = .ok (.ireturn, 1) := by decide +kernel
theorem dX4_cost_18 : decode cX4_cost 18 = .ok (.iload_n 3, 1) := by decide +kernel
theorem dX4_cost_19 : decode cX4_cost 19 = .ok (.iconst 0, 1) := by decide +kernel
theorem dX4_cost_20 : decode cX4_cost 20 = .ok (.sipush 1000, 3) := by decide +kernel
theorem dX4_cost_23 : decode cX4_cost 23 = .ok (.invokestatic 39, 3) := by decide +kernel
theorem dX4_cost_26 : decode cX4_cost 26 = .ok (.ifCond .ne 6, 3) := by decide +kernel
theorem dX4_cost_29 : decode cX4_cost 29 = .ok (.bipush (-2), 2) := by decide +kernel
theorem dX4_cost_31 : decode cX4_cost 31 = .ok (.ireturn, 1) := by decide +kernel
theorem dX4_cost_32 : decode cX4_cost 32 = .ok (.iload_n 1, 1) := by decide +kernel
theorem dX4_cost_33 : decode cX4_cost 33 = .ok (.iload_n 2, 1) := by decide +kernel
theorem dX4_cost_34 : decode cX4_cost 34 = .ok (.if_icmp .ne 6, 3) := by decide +kernel
theorem dX4_cost_37 : decode cX4_cost 37 = .ok (.bipush (-5), 2) := by decide +kernel
theorem dX4_cost_39 : decode cX4_cost 39 = .ok (.ireturn, 1) := by decide +kernel
theorem dX4_cost_40 : decode cX4_cost 40 = .ok (.aload_n 0, 1) := by decide +kernel
theorem dX4_cost_41 : decode cX4_cost 41 = .ok (.getfield 35, 3) := by decide +kernel
theorem dX4_cost_44 : decode cX4_cost 44 = .ok (.iload_n 1, 1) := by decide +kernel
theorem dX4_cost_45 : decode cX4_cost 45 = .ok (.iload_n 2, 1) := by decide +kernel
theorem dX4_cost_46 : decode cX4_cost 46 = .ok (.iload_n 3, 1) := by decide +kernel
theorem dX4_cost_47 : decode cX4_cost 47 = .ok (.invokevirtual 152, 3) := by decide +kernel
theorem dX4_cost_50 : decode cX4_cost 50 = .ok (.ireturn, 1) := by decide +kernel
set_option maxRecDepth 20000 in
theorem ggX4_tour_X4_isGrade : GoodIn wsX4_tour wsX4_isGrade := goodIn_r _ [6, 1, 7, 8, 9, 10, 11, 12, 13, 14, 5, 15, 54, 55, 56, 57, 58, 59, 60, 61] (by decide +kernel) (by decide +kernel)
set_option maxRecDepth 20000 in
theorem gX4_tour_X4_isGrade : GoodIn wsX4_tour (wsV RX4 149 RX4 yX4_isGrade wsX4_isGrade) := goodIn_app (goodIn_of _ (by decide +kernel)) ggX4_tour_X4_isGrade
set_option maxRecDepth 20000 in
theorem ggX4_tour_X1_leastCosts : GoodIn wsX4_tour wsX1_leastCosts := goodIn_r _ [19, 20, 21, 22, 10, 23, 24, 12, 25, 26, 27, 28, 29, 30, 31, 32, 33, 34, 35, 36, 37, 38, 39, 40, 41, 42, 43, 44, 45, 46, 47, 48, 49, 50, 51, 52, 53, 58, 59, 60, 61] (by decide +kernel) (by decide +kernel)
set_option maxRecDepth 20000 in
theorem gX4_tour_X1_leastCosts : GoodIn wsX4_tour (wsV RX4 155 RX1 yX1_leastCosts wsX1_leastCosts) := goodIn_app (goodIn_of _ (by decide +kernel)) ggX4_tour_X1_leastCosts
theorem dX4_tour_0 : decode cX4_tour 0 = .ok (.aload_n 0, 1) := by decide +kernel
theorem dX4_tour_1 : decode cX4_tour 1 = .ok (.iload_n 1, 1) := by decide +kernel
theorem dX4_tour_2 : decode cX4_tour 2 = .ok (.invokevirtual 149, 3) := by decide +kernel
theorem dX4_tour_5 : decode cX4_tour 5 = .ok (.ifCond .ne 5, 3) := by decide +kernel
theorem dX4_tour_8 : decode cX4_tour 8 = .ok (.iconst (-1), 1) := by decide +kernel
theorem dX4_tour_9 : decode cX4_tour 9 = .ok (.ireturn, 1) := by decide +kernel
theorem dX4_tour_10 : decode cX4_tour 10 = .ok (.aload_n 0, 1) := by decide +kernel
theorem dX4_tour_11 : decode cX4_tour 11 = .ok (.getfield 35, 3) := by decide +kernel
theorem dX4_tour_14 : decode cX4_tour 14 = .ok (.iload_n 1, 1) := by decide +kernel
theorem dX4_tour_15 : decode cX4_tour 15 = .ok (.invokevirtual 155, 3) := by decide +kernel
theorem dX4_tour_18 : decode cX4_tour 18 = .ok (.ireturn, 1) := by decide +kernel
set_option maxRecDepth 20000 in
theorem ggX4_tourAt_X4_isGrade : GoodIn wsX4_tourAt wsX4_isGrade := goodIn_r _ [6, 1, 7, 8, 9, 10, 11, 12, 13, 14, 5, 15, 54, 55, 56, 57, 58, 59, 60, 61] (by decide +kernel) (by decide +kernel)
set_option maxRecDepth 20000 in
theorem gX4_tourAt_X4_isGrade : GoodIn wsX4_tourAt (wsV RX4 149 RX4 yX4_isGrade wsX4_isGrade) := goodIn_app (goodIn_of _ (by decide +kernel)) ggX4_tourAt_X4_isGrade
set_option maxRecDepth 20000 in
theorem ggX4_tourAt_X1_stepOf : GoodIn wsX4_tourAt wsX1_stepOf := goodIn_r _ [19, 20, 21, 22, 10, 23, 24, 12, 25, 26, 27, 28, 29, 30, 31, 32, 33, 34, 35, 36, 37, 38, 39, 40, 41, 42, 43, 44, 45, 46, 47, 48, 49, 50, 51, 52, 53, 58, 59, 60, 61] (by decide +kernel) (by decide +kernel)
set_option maxRecDepth 20000 in
theorem gX4_tourAt_X1_stepOf : GoodIn wsX4_tourAt (wsV RX4 158 RX1 yX1_stepOf wsX1_stepOf) := goodIn_app (goodIn_of _ (by decide +kernel)) ggX4_tourAt_X1_stepOf
theorem dX4_tourAt_0 : decode cX4_tourAt 0 = .ok (.aload_n 0, 1) := by decide +kernel
theorem dX4_tourAt_1 : decode cX4_tourAt 1 = .ok (.iload_n 1, 1) := by decide +kernel
theorem dX4_tourAt_2 : decode cX4_tourAt 2 = .ok (.invokevirtual 149, 3) := by decide +kernel
theorem dX4_tourAt_5 : decode cX4_tourAt 5 = .ok (.ifCond .ne 5, 3) := by decide +kernel
theorem dX4_tourAt_8 : decode cX4_tourAt 8 = .ok (.iconst (-1), 1) := by decide +kernel
theorem dX4_tourAt_9 : decode cX4_tourAt 9 = .ok (.ireturn, 1) := by decide +kernel
theorem dX4_tourAt_10 : decode cX4_tourAt 10 = .ok (.aload_n 0, 1) := by decide +kernel
theorem dX4_tourAt_11 : decode cX4_tourAt 11 = .ok (.iload_n 2, 1) := by decide +kernel
theorem dX4_tourAt_12 : decode cX4_tourAt 12 = .ok (.invokevirtual 149, 3) := by decide +kernel
theorem dX4_tourAt_15 : decode cX4_tourAt 15 = .ok (.ifCond .ne 6, 3) := by decide +kernel
theorem dX4_tourAt_18 : decode cX4_tourAt 18 = .ok (.bipush (-6), 2) := by decide +kernel
theorem dX4_tourAt_20 : decode cX4_tourAt 20 = .ok (.ireturn, 1) := by decide +kernel
theorem dX4_tourAt_21 : decode cX4_tourAt 21 = .ok (.aload_n 0, 1) := by decide +kernel
theorem dX4_tourAt_22 : decode cX4_tourAt 22 = .ok (.getfield 35, 3) := by decide +kernel
theorem dX4_tourAt_25 : decode cX4_tourAt 25 = .ok (.iload_n 1, 1) := by decide +kernel
theorem dX4_tourAt_26 : decode cX4_tourAt 26 = .ok (.iload_n 2, 1) := by decide +kernel
theorem dX4_tourAt_27 : decode cX4_tourAt 27 = .ok (.invokevirtual 158, 3) := by decide +kernel
theorem dX4_tourAt_30 : decode cX4_tourAt 30 = .ok (.ireturn, 1) := by decide +kernel
set_option maxRecDepth 20000 in
theorem ggX4_told_X2_places : GoodIn wsX4_told wsX2_places := goodIn_r _ [9, 10, 58, 59, 60, 61, 62, 63, 64, 65] (by decide +kernel) (by decide +kernel)
set_option maxRecDepth 20000 in
theorem gX4_told_X2_places : GoodIn wsX4_told (wsV RX4 43 RX2 yX2_places wsX2_places) := goodIn_app (goodIn_of _ (by decide +kernel)) ggX4_told_X2_places
set_option maxRecDepth 20000 in
theorem ggX4_told_X0_count : GoodIn wsX4_told wsX0_count := goodIn_r _ [15, 16, 66, 67, 68, 69, 70, 71, 72, 73] (by decide +kernel) (by decide +kernel)
set_option maxRecDepth 20000 in
theorem gX4_told_X0_count : GoodIn wsX4_told (wsV RX4 62 RX0 yX0_count wsX0_count) := goodIn_app (goodIn_of _ (by decide +kernel)) ggX4_told_X0_count
set_option maxRecDepth 20000 in
theorem ggX4_told_X0_fittingCount : GoodIn wsX4_told wsX0_fittingCount := goodIn_r _ [20, 21, 66, 67, 68, 69, 70, 71, 72, 73] (by decide +kernel) (by decide +kernel)
set_option maxRecDepth 20000 in
theorem gX4_told_X0_fittingCount : GoodIn wsX4_told (wsV RX4 161 RX0 yX0_fittingCount wsX0_fittingCount) := goodIn_app (goodIn_of _ (by decide +kernel)) ggX4_told_X0_fittingCount
set_option maxRecDepth 20000 in
theorem ggX4_told_X3_count : GoodIn wsX4_told wsX3_count := goodIn_r _ [26, 27, 74, 75, 76, 77, 78, 79, 80] (by decide +kernel) (by decide +kernel)
set_option maxRecDepth 20000 in
theorem gX4_told_X3_count : GoodIn wsX4_told (wsV RX4 133 RX3 yX3_count wsX3_count) := goodIn_app (goodIn_of _ (by decide +kernel)) ggX4_told_X3_count
set_option maxRecDepth 20000 in
theorem ggX4_told_X1_count : GoodIn wsX4_told wsX1_count := goodIn_r _ [32, 33, 81, 82, 83, 84] (by decide +kernel) (by decide +kernel)
set_option maxRecDepth 20000 in
theorem gX4_told_X1_count : GoodIn wsX4_told (wsV RX4 146 RX1 yX1_count wsX1_count) := goodIn_app (goodIn_of _ (by decide +kernel)) ggX4_told_X1_count
set_option maxRecDepth 20000 in
theorem ggX4_told_X2_nextLaw : GoodIn wsX4_told wsX2_nextLaw := goodIn_r _ [37, 38, 58, 59, 60, 61, 62, 63, 64, 65] (by decide +kernel) (by decide +kernel)
set_option maxRecDepth 20000 in
theorem gX4_told_X2_nextLaw : GoodIn wsX4_told (wsV RX4 164 RX2 yX2_nextLaw wsX2_nextLaw) := goodIn_app (goodIn_of _ (by decide +kernel)) ggX4_told_X2_nextLaw
set_option maxRecDepth 20000 in
theorem ggX4_told_X2_bendLaw : GoodIn wsX4_told wsX2_bendLaw := goodIn_r _ [42, 43, 58, 59, 60, 61, 62, 63, 64, 65] (by decide +kernel) (by decide +kernel)
set_option maxRecDepth 20000 in
theorem gX4_told_X2_bendLaw : GoodIn wsX4_told (wsV RX4 167 RX2 yX2_bendLaw wsX2_bendLaw) := goodIn_app (goodIn_of _ (by decide +kernel)) ggX4_told_X2_bendLaw
set_option maxRecDepth 20000 in
theorem ggX4_told_X2_mainSpread : GoodIn wsX4_told wsX2_mainSpread := goodIn_r _ [47, 48, 58, 59, 60, 61, 62, 63, 64, 65] (by decide +kernel) (by decide +kernel)
set_option maxRecDepth 20000 in
theorem gX4_told_X2_mainSpread : GoodIn wsX4_told (wsV RX4 170 RX2 yX2_mainSpread wsX2_mainSpread) := goodIn_app (goodIn_of _ (by decide +kernel)) ggX4_told_X2_mainSpread
set_option maxRecDepth 20000 in
theorem ggX4_told_X2_sideSpread : GoodIn wsX4_told wsX2_sideSpread := goodIn_r _ [52, 53, 58, 59, 60, 61, 62, 63, 64, 65] (by decide +kernel) (by decide +kernel)
set_option maxRecDepth 20000 in
theorem gX4_told_X2_sideSpread : GoodIn wsX4_told (wsV RX4 173 RX2 yX2_sideSpread wsX2_sideSpread) := goodIn_app (goodIn_of _ (by decide +kernel)) ggX4_told_X2_sideSpread
theorem dX4_told_0 : decode cX4_told 0 = .ok (.iload_n 1, 1) := by decide +kernel
theorem dX4_told_1 : decode cX4_told 1 = .ok (.tableswitch 123 0 8 #[51, 59, 67, 75, 83, 91, 99, 107, 115], 51) := by decide +kernel
theorem dX4_told_52 : decode cX4_told 52 = .ok (.aload_n 0, 1) := by decide +kernel
theorem dX4_told_53 : decode cX4_told 53 = .ok (.getfield 19, 3) := by decide +kernel
theorem dX4_told_56 : decode cX4_told 56 = .ok (.invokevirtual 43, 3) := by decide +kernel
theorem dX4_told_59 : decode cX4_told 59 = .ok (.ireturn, 1) := by decide +kernel
theorem dX4_told_60 : decode cX4_told 60 = .ok (.aload_n 0, 1) := by decide +kernel
theorem dX4_told_61 : decode cX4_told 61 = .ok (.getfield 10, 3) := by decide +kernel
theorem dX4_told_64 : decode cX4_told 64 = .ok (.invokevirtual 62, 3) := by decide +kernel
theorem dX4_told_67 : decode cX4_told 67 = .ok (.ireturn, 1) := by decide +kernel
theorem dX4_told_68 : decode cX4_told 68 = .ok (.aload_n 0, 1) := by decide +kernel
theorem dX4_told_69 : decode cX4_told 69 = .ok (.getfield 10, 3) := by decide +kernel
theorem dX4_told_72 : decode cX4_told 72 = .ok (.invokevirtual 161, 3) := by decide +kernel
theorem dX4_told_75 : decode cX4_told 75 = .ok (.ireturn, 1) := by decide +kernel
theorem dX4_told_76 : decode cX4_told 76 = .ok (.aload_n 0, 1) := by decide +kernel
theorem dX4_told_77 : decode cX4_told 77 = .ok (.getfield 28, 3) := by decide +kernel
theorem dX4_told_80 : decode cX4_told 80 = .ok (.invokevirtual 133, 3) := by decide +kernel
theorem dX4_told_83 : decode cX4_told 83 = .ok (.ireturn, 1) := by decide +kernel
theorem dX4_told_84 : decode cX4_told 84 = .ok (.aload_n 0, 1) := by decide +kernel
theorem dX4_told_85 : decode cX4_told 85 = .ok (.getfield 35, 3) := by decide +kernel
theorem dX4_told_88 : decode cX4_told 88 = .ok (.invokevirtual 146, 3) := by decide +kernel
theorem dX4_told_91 : decode cX4_told 91 = .ok (.ireturn, 1) := by decide +kernel
theorem dX4_told_92 : decode cX4_told 92 = .ok (.aload_n 0, 1) := by decide +kernel
theorem dX4_told_93 : decode cX4_told 93 = .ok (.getfield 19, 3) := by decide +kernel
theorem dX4_told_96 : decode cX4_told 96 = .ok (.invokevirtual 164, 3) := by decide +kernel
theorem dX4_told_99 : decode cX4_told 99 = .ok (.ireturn, 1) := by decide +kernel
theorem dX4_told_100 : decode cX4_told 100 = .ok (.aload_n 0, 1) := by decide +kernel
theorem dX4_told_101 : decode cX4_told 101 = .ok (.getfield 19, 3) := by decide +kernel
theorem dX4_told_104 : decode cX4_told 104 = .ok (.invokevirtual 167, 3) := by decide +kernel
theorem dX4_told_107 : decode cX4_told 107 = .ok (.ireturn, 1) := by decide +kernel
theorem dX4_told_108 : decode cX4_told 108 = .ok (.aload_n 0, 1) := by decide +kernel
theorem dX4_told_109 : decode cX4_told 109 = .ok (.getfield 19, 3) := by decide +kernel
theorem dX4_told_112 : decode cX4_told 112 = .ok (.invokevirtual 170, 3) := by decide +kernel
theorem dX4_told_115 : decode cX4_told 115 = .ok (.ireturn, 1) := by decide +kernel
theorem dX4_told_116 : decode cX4_told 116 = .ok (.aload_n 0, 1) := by decide +kernel
theorem dX4_told_117 : decode cX4_told 117 = .ok (.getfield 19, 3) := by decide +kernel
theorem dX4_told_120 : decode cX4_told 120 = .ok (.invokevirtual 173, 3) := by decide +kernel
theorem dX4_told_123 : decode cX4_told 123 = .ok (.ireturn, 1) := by decide +kernel
theorem dX4_told_124 : decode cX4_told 124 = .ok (.sipush (-1002), 3) := by decide +kernel
theorem dX4_told_127 : decode cX4_told 127 = .ok (.ireturn, 1) := by decide +kernel
set_option maxRecDepth 20000 in
theorem ggX4_isPlace_X2_places : GoodIn wsX4_isPlace wsX2_places := goodIn_r _ [6, 7, 16, 17, 18, 19, 20, 21, 22, 23] (by decide +kernel) (by decide +kernel)
set_option maxRecDepth 20000 in
theorem gX4_isPlace_X2_places : GoodIn wsX4_isPlace (wsV RX4 43 RX2 yX2_places wsX2_places) := goodIn_app (goodIn_of _ (by decide +kernel)) ggX4_isPlace_X2_places
set_option maxRecDepth 20000 in
theorem ggX4_isPlace_X4_within : GoodIn wsX4_isPlace wsX4_within := goodIn_r _ [11] (by decide +kernel) (by decide +kernel)
set_option maxRecDepth 20000 in
theorem gX4_isPlace_X4_within : GoodIn wsX4_isPlace (va_wsS RX4 39 yX4_within wsX4_within) := goodIn_app (goodIn_of _ (by decide +kernel)) ggX4_isPlace_X4_within
theorem dX4_isPlace_0 : decode cX4_isPlace 0 = .ok (.iload_n 1, 1) := by decide +kernel
theorem dX4_isPlace_1 : decode cX4_isPlace 1 = .ok (.iconst 0, 1) := by decide +kernel
theorem dX4_isPlace_2 : decode cX4_isPlace 2 = .ok (.aload_n 0, 1) := by decide +kernel
theorem dX4_isPlace_3 : decode cX4_isPlace 3 = .ok (.getfield 19, 3) := by decide +kernel
theorem dX4_isPlace_6 : decode cX4_isPlace 6 = .ok (.invokevirtual 43, 3) := by decide +kernel
theorem dX4_isPlace_9 : decode cX4_isPlace 9 = .ok (.iconst 1, 1) := by decide +kernel
theorem dX4_isPlace_10 : decode cX4_isPlace 10 = .ok (.isub, 1) := by decide +kernel
theorem dX4_isPlace_11 : decode cX4_isPlace 11 = .ok (.invokestatic 39, 3) := by decide +kernel
theorem dX4_isPlace_14 : decode cX4_isPlace 14 = .ok (.ireturn, 1) := by decide +kernel
set_option maxRecDepth 20000 in
theorem ggX4_isGrade_X1_count : GoodIn wsX4_isGrade wsX1_count := goodIn_r _ [6, 7, 16, 17, 18, 19] (by decide +kernel) (by decide +kernel)
set_option maxRecDepth 20000 in
theorem gX4_isGrade_X1_count : GoodIn wsX4_isGrade (wsV RX4 146 RX1 yX1_count wsX1_count) := goodIn_app (goodIn_of _ (by decide +kernel)) ggX4_isGrade_X1_count
set_option maxRecDepth 20000 in
theorem ggX4_isGrade_X4_within : GoodIn wsX4_isGrade wsX4_within := goodIn_r _ [11] (by decide +kernel) (by decide +kernel)
set_option maxRecDepth 20000 in
theorem gX4_isGrade_X4_within : GoodIn wsX4_isGrade (va_wsS RX4 39 yX4_within wsX4_within) := goodIn_app (goodIn_of _ (by decide +kernel)) ggX4_isGrade_X4_within
theorem dX4_isGrade_0 : decode cX4_isGrade 0 = .ok (.iload_n 1, 1) := by decide +kernel
theorem dX4_isGrade_1 : decode cX4_isGrade 1 = .ok (.iconst 0, 1) := by decide +kernel
theorem dX4_isGrade_2 : decode cX4_isGrade 2 = .ok (.aload_n 0, 1) := by decide +kernel
theorem dX4_isGrade_3 : decode cX4_isGrade 3 = .ok (.getfield 35, 3) := by decide +kernel
theorem dX4_isGrade_6 : decode cX4_isGrade 6 = .ok (.invokevirtual 146, 3) := by decide +kernel
theorem dX4_isGrade_9 : decode cX4_isGrade 9 = .ok (.iconst 1, 1) := by decide +kernel
theorem dX4_isGrade_10 : decode cX4_isGrade 10 = .ok (.isub, 1) := by decide +kernel
theorem dX4_isGrade_11 : decode cX4_isGrade 11 = .ok (.invokestatic 39, 3) := by decide +kernel
theorem dX4_isGrade_14 : decode cX4_isGrade 14 = .ok (.ireturn, 1) := by decide +kernel
set_option maxRecDepth 20000 in
theorem ggX4_isTime_X4_within : GoodIn wsX4_isTime wsX4_within := goodIn_r _ [4] (by decide +kernel) (by decide +kernel)
set_option maxRecDepth 20000 in
theorem gX4_isTime_X4_within : GoodIn wsX4_isTime (va_wsS RX4 39 yX4_within wsX4_within) := goodIn_app (goodIn_of _ (by decide +kernel)) ggX4_isTime_X4_within
theorem dX4_isTime_0 : decode cX4_isTime 0 = .ok (.iload_n 0, 1) := by decide +kernel
theorem dX4_isTime_1 : decode cX4_isTime 1 = .ok (.iconst 0, 1) := by decide +kernel
theorem dX4_isTime_2 : decode cX4_isTime 2 = .ok (.bipush 39, 2) := by decide +kernel
theorem dX4_isTime_4 : decode cX4_isTime 4 = .ok (.invokestatic 39, 3) := by decide +kernel
theorem dX4_isTime_7 : decode cX4_isTime 7 = .ok (.ireturn, 1) := by decide +kernel
theorem dX4_within_0 : decode cX4_within 0 = .ok (.iload_n 0, 1) := by decide +kernel
theorem dX4_within_1 : decode cX4_within 1 = .ok (.iload_n 1, 1) := by decide +kernel
theorem dX4_within_2 : decode cX4_within 2 = .ok (.if_icmp .lt 12, 3) := by decide +kernel
theorem dX4_within_5 : decode cX4_within 5 = .ok (.iload_n 0, 1) := by decide +kernel
theorem dX4_within_6 : decode cX4_within 6 = .ok (.iload_n 2, 1) := by decide +kernel
theorem dX4_within_7 : decode cX4_within 7 = .ok (.if_icmp .gt 7, 3) := by decide +kernel
theorem dX4_within_10 : decode cX4_within 10 = .ok (.iconst 1, 1) := by decide +kernel
theorem dX4_within_11 : decode cX4_within 11 = .ok (.goto 4, 3) := by decide +kernel
theorem dX4_within_14 : decode cX4_within 14 = .ok (.iconst 0, 1) := by decide +kernel
theorem dX4_within_15 : decode cX4_within 15 = .ok (.ireturn, 1) := by decide +kernel
