set_option maxRecDepth 20000 in
theorem ggX1_init_J7_fill_53178 : GoodIn wsX1_init wsJ7_fill_53178 := goodIn_r _ [10] (by decide +kernel) (by decide +kernel)
set_option maxRecDepth 20000 in
theorem gX1_init_J7_fill_53178 : GoodIn wsX1_init (va_wsS RX1 18 yJ7_fill_53178 wsJ7_fill_53178) := goodIn_app (goodIn_of _ (by decide +kernel)) ggX1_init_J7_fill_53178
theorem dX1_init_0 : decode cX1_init 0 = .ok (.aload_n 0, 1) := by decide +kernel
theorem dX1_init_1 : decode cX1_init 1 = .ok (.invokespecial 3, 3) := by decide +kernel
theorem dX1_init_4 : decode cX1_init 4 = .ok (.aload_n 0, 1) := by decide +kernel
theorem dX1_init_5 : decode cX1_init 5 = .ok (.bipush 81, 2) := by decide +kernel
theorem dX1_init_7 : decode cX1_init 7 = .ok (.newarray .int, 2) := by decide +kernel
theorem dX1_init_9 : decode cX1_init 9 = .ok (.putfield 9, 3) := by decide +kernel
theorem dX1_init_12 : decode cX1_init 12 = .ok (.aload_n 0, 1) := by decide +kernel
theorem dX1_init_13 : decode cX1_init 13 = .ok (.sipush 4608, 3) := by decide +kernel
theorem dX1_init_16 : decode cX1_init 16 = .ok (.newarray .int, 2) := by decide +kernel
theorem dX1_init_18 : decode cX1_init 18 = .ok (.putfield 15, 3) := by decide +kernel
theorem dX1_init_21 : decode cX1_init 21 = .ok (.aload_n 0, 1) := by decide +kernel
theorem dX1_init_22 : decode cX1_init 22 = .ok (.getfield 9, 3) := by decide +kernel
theorem dX1_init_25 : decode cX1_init 25 = .ok (.bipush 100, 2) := by decide +kernel
theorem dX1_init_27 : decode cX1_init 27 = .ok (.invokestatic 18, 3) := by decide +kernel
theorem dX1_init_30 : decode cX1_init 30 = .ok (.return_, 1) := by decide +kernel
theorem dX1_count_0 : decode cX1_count 0 = .ok (.aload_n 0, 1) := by decide +kernel
theorem dX1_count_1 : decode cX1_count 1 = .ok (.getfield 24, 3) := by decide +kernel
theorem dX1_count_4 : decode cX1_count 4 = .ok (.ireturn, 1) := by decide +kernel
theorem dX1_add_0 : decode cX1_add 0 = .ok (.aload_n 0, 1) := by decide +kernel
theorem dX1_add_1 : decode cX1_add 1 = .ok (.iconst 0, 1) := by decide +kernel
theorem dX1_add_2 : decode cX1_add 2 = .ok (.putfield 28, 3) := by decide +kernel
theorem dX1_add_5 : decode cX1_add 5 = .ok (.aload_n 0, 1) := by decide +kernel
theorem dX1_add_6 : decode cX1_add 6 = .ok (.dup, 1) := by decide +kernel
theorem dX1_add_7 : decode cX1_add 7 = .ok (.getfield 24, 3) := by decide +kernel
theorem dX1_add_10 : decode cX1_add 10 = .ok (.iconst 1, 1) := by decide +kernel
theorem dX1_add_11 : decode cX1_add 11 = .ok (.iadd, 1) := by decide +kernel
theorem dX1_add_12 : decode cX1_add 12 = .ok (.putfield 24, 3) := by decide +kernel
theorem dX1_add_15 : decode cX1_add 15 = .ok (.aload_n 0, 1) := by decide +kernel
theorem dX1_add_16 : decode cX1_add 16 = .ok (.getfield 24, 3) := by decide +kernel
theorem dX1_add_19 : decode cX1_add 19 = .ok (.iconst 1, 1) := by decide +kernel
theorem dX1_add_20 : decode cX1_add 20 = .ok (.isub, 1) := by decide +kernel
theorem dX1_add_21 : decode cX1_add 21 = .ok (.ireturn, 1) := by decide +kernel
set_option maxRecDepth 20000 in
theorem ggX1_putCost_X1_costOf : GoodIn wsX1_putCost wsX1_costOf := goodIn_r _ [7, 1, 8, 9, 10, 11] (by decide +kernel) (by decide +kernel)
set_option maxRecDepth 20000 in
theorem gX1_putCost_X1_costOf : GoodIn wsX1_putCost (wsV RX1 32 RX1 yX1_costOf wsX1_costOf) := goodIn_app (goodIn_of _ (by decide +kernel)) ggX1_putCost_X1_costOf
theorem dX1_putCost_0 : decode cX1_putCost 0 = .ok (.aload_n 0, 1) := by decide +kernel
theorem dX1_putCost_1 : decode cX1_putCost 1 = .ok (.iload_n 1, 1) := by decide +kernel
theorem dX1_putCost_2 : decode cX1_putCost 2 = .ok (.iload_n 2, 1) := by decide +kernel
theorem dX1_putCost_3 : decode cX1_putCost 3 = .ok (.invokevirtual 32, 3) := by decide +kernel
theorem dX1_putCost_6 : decode cX1_putCost 6 = .ok (.istore 4, 2) := by decide +kernel
theorem dX1_putCost_8 : decode cX1_putCost 8 = .ok (.aload_n 0, 1) := by decide +kernel
theorem dX1_putCost_9 : decode cX1_putCost 9 = .ok (.getfield 9, 3) := by decide +kernel
theorem dX1_putCost_12 : decode cX1_putCost 12 = .ok (.iload_n 1, 1) := by decide +kernel
theorem dX1_putCost_13 : decode cX1_putCost 13 = .ok (.bipush 9, 2) := by decide +kernel
theorem dX1_putCost_15 : decode cX1_putCost 15 = .ok (.imul, 1) := by decide +kernel
theorem dX1_putCost_16 : decode cX1_putCost 16 = .ok (.iload_n 2, 1) := by decide +kernel
theorem dX1_putCost_17 : decode cX1_putCost 17 = .ok (.iadd, 1) := by decide +kernel
theorem dX1_putCost_18 : decode cX1_putCost 18 = .ok (.iload_n 3, 1) := by decide +kernel
theorem dX1_putCost_19 : decode cX1_putCost 19 = .ok (.iastore, 1) := by decide +kernel
theorem dX1_putCost_20 : decode cX1_putCost 20 = .ok (.aload_n 0, 1) := by decide +kernel
theorem dX1_putCost_21 : decode cX1_putCost 21 = .ok (.iconst 0, 1) := by decide +kernel
theorem dX1_putCost_22 : decode cX1_putCost 22 = .ok (.putfield 28, 3) := by decide +kernel
theorem dX1_putCost_25 : decode cX1_putCost 25 = .ok (.iload 4, 2) := by decide +kernel
theorem dX1_putCost_27 : decode cX1_putCost 27 = .ok (.ireturn, 1) := by decide +kernel
theorem dX1_costOf_0 : decode cX1_costOf 0 = .ok (.aload_n 0, 1) := by decide +kernel
theorem dX1_costOf_1 : decode cX1_costOf 1 = .ok (.getfield 9, 3) := by decide +kernel
theorem dX1_costOf_4 : decode cX1_costOf 4 = .ok (.iload_n 1, 1) := by decide +kernel
theorem dX1_costOf_5 : decode cX1_costOf 5 = .ok (.bipush 9, 2) := by decide +kernel
theorem dX1_costOf_7 : decode cX1_costOf 7 = .ok (.imul, 1) := by decide +kernel
theorem dX1_costOf_8 : decode cX1_costOf 8 = .ok (.iload_n 2, 1) := by decide +kernel
theorem dX1_costOf_9 : decode cX1_costOf 9 = .ok (.iadd, 1) := by decide +kernel
theorem dX1_costOf_10 : decode cX1_costOf 10 = .ok (.iaload, 1) := by decide +kernel
theorem dX1_costOf_11 : decode cX1_costOf 11 = .ok (.ireturn, 1) := by decide +kernel
set_option maxRecDepth 20000 in
theorem ggX1_leastCosts_X1_weighAll : GoodIn wsX1_leastCosts wsX1_weighAll := goodIn_r _ [5, 6, 7, 8, 9, 10, 4, 11, 12, 13, 14, 15, 16, 17, 18, 19, 20, 21, 22, 23, 24, 25, 26, 27, 28, 29, 30, 31, 32, 37, 38, 39, 40] (by decide +kernel) (by decide +kernel)
set_option maxRecDepth 20000 in
theorem gX1_leastCosts_X1_weighAll : GoodIn wsX1_leastCosts (wsV RX1 36 RX1 yX1_weighAll wsX1_weighAll) := goodIn_app (goodIn_of _ (by decide +kernel)) ggX1_leastCosts_X1_weighAll
set_option maxRecDepth 20000 in
theorem ggX1_leastCosts_X1_allBut : GoodIn wsX1_leastCosts wsX1_allBut := goodIn_r _ [36, 7, 26, 27, 4, 28, 37, 38, 39, 40] (by decide +kernel) (by decide +kernel)
set_option maxRecDepth 20000 in
theorem gX1_leastCosts_X1_allBut : GoodIn wsX1_leastCosts (wsV RX1 39 RX1 yX1_allBut wsX1_allBut) := goodIn_app (goodIn_of _ (by decide +kernel)) ggX1_leastCosts_X1_allBut
set_option maxRecDepth 20000 in
theorem ggX1_leastCosts_X1_restOf : GoodIn wsX1_leastCosts wsX1_restOf := goodIn_r _ [32, 8, 37, 38, 39, 40] (by decide +kernel) (by decide +kernel)
set_option maxRecDepth 20000 in
theorem gX1_leastCosts_X1_restOf : GoodIn wsX1_leastCosts (wsV RX1 43 RX1 yX1_restOf wsX1_restOf) := goodIn_app (goodIn_of _ (by decide +kernel)) ggX1_leastCosts_X1_restOf
theorem dX1_leastCosts_0 : decode cX1_leastCosts 0 = .ok (.aload_n 0, 1) := by decide +kernel
theorem dX1_leastCosts_1 : decode cX1_leastCosts 1 = .ok (.invokevirtual 36, 3) := by decide +kernel
theorem dX1_leastCosts_4 : decode cX1_leastCosts 4 = .ok (.aload_n 0, 1) := by decide +kernel
theorem dX1_leastCosts_5 : decode cX1_leastCosts 5 = .ok (.aload_n 0, 1) := by decide +kernel
theorem dX1_leastCosts_6 : decode cX1_leastCosts 6 = .ok (.iload_n 1, 1) := by decide +kernel
theorem dX1_leastCosts_7 : decode cX1_leastCosts 7 = .ok (.invokevirtual 39, 3) := by decide +kernel
theorem dX1_leastCosts_10 : decode cX1_leastCosts 10 = .ok (.iload_n 1, 1) := by decide +kernel
theorem dX1_leastCosts_11 : decode cX1_leastCosts 11 = .ok (.invokevirtual 43, 3) := by decide +kernel
theorem dX1_leastCosts_14 : decode cX1_leastCosts 14 = .ok (.ireturn, 1) := by decide +kernel
set_option maxRecDepth 20000 in
theorem ggX1_stepOf_X1_weighAll : GoodIn wsX1_stepOf wsX1_weighAll := goodIn_r _ [5, 6, 7, 8, 9, 10, 4, 11, 12, 13, 14, 15, 16, 17, 18, 19, 20, 21, 22, 23, 24, 25, 26, 27, 28, 29, 30, 31, 32, 37, 38, 39, 40] (by decide +kernel) (by decide +kernel)
set_option maxRecDepth 20000 in
theorem gX1_stepOf_X1_weighAll : GoodIn wsX1_stepOf (wsV RX1 36 RX1 yX1_weighAll wsX1_weighAll) := goodIn_app (goodIn_of _ (by decide +kernel)) ggX1_stepOf_X1_weighAll
set_option maxRecDepth 20000 in
theorem ggX1_stepOf_X1_allBut : GoodIn wsX1_stepOf wsX1_allBut := goodIn_r _ [36, 7, 26, 27, 4, 28, 37, 38, 39, 40] (by decide +kernel) (by decide +kernel)
set_option maxRecDepth 20000 in
theorem gX1_stepOf_X1_allBut : GoodIn wsX1_stepOf (wsV RX1 39 RX1 yX1_allBut wsX1_allBut) := goodIn_app (goodIn_of _ (by decide +kernel)) ggX1_stepOf_X1_allBut
set_option maxRecDepth 20000 in
theorem ggX1_stepOf_X1_lesserStep : GoodIn wsX1_stepOf wsX1_lesserStep := goodIn_r _ [15, 16, 7, 9, 10, 4, 11, 17, 18, 19, 20, 21, 22, 23, 24, 25, 26, 27, 28, 29, 30, 31, 32, 8, 37, 38, 39, 40] (by decide +kernel) (by decide +kernel)
set_option maxRecDepth 20000 in
theorem gX1_stepOf_X1_lesserStep : GoodIn wsX1_stepOf (wsV RX1 46 RX1 yX1_lesserStep wsX1_lesserStep) := goodIn_app (goodIn_of _ (by decide +kernel)) ggX1_stepOf_X1_lesserStep
set_option maxRecDepth 20000 in
theorem ggX1_stepOf_X1_without : GoodIn wsX1_stepOf wsX1_without := goodIn_r _ [28] (by decide +kernel) (by decide +kernel)
set_option maxRecDepth 20000 in
theorem gX1_stepOf_X1_without : GoodIn wsX1_stepOf (va_wsS RX1 49 yX1_without wsX1_without) := goodIn_app (goodIn_of _ (by decide +kernel)) ggX1_stepOf_X1_without
theorem dX1_stepOf_0 : decode cX1_stepOf 0 = .ok (.aload_n 0, 1) := by decide +kernel
theorem dX1_stepOf_1 : decode cX1_stepOf 1 = .ok (.invokevirtual 36, 3) := by decide +kernel
theorem dX1_stepOf_4 : decode cX1_stepOf 4 = .ok (.iload_n 1, 1) := by decide +kernel
theorem dX1_stepOf_5 : decode cX1_stepOf 5 = .ok (.istore_n 3, 1) := by decide +kernel
theorem dX1_stepOf_6 : decode cX1_stepOf 6 = .ok (.aload_n 0, 1) := by decide +kernel
theorem dX1_stepOf_7 : decode cX1_stepOf 7 = .ok (.iload_n 1, 1) := by decide +kernel
theorem dX1_stepOf_8 : decode cX1_stepOf 8 = .ok (.invokevirtual 39, 3) := by decide +kernel
theorem dX1_stepOf_11 : decode cX1_stepOf 11 = .ok (.istore 4, 2) := by decide +kernel
theorem dX1_stepOf_13 : decode cX1_stepOf 13 = .ok (.iconst 0, 1) := by decide +kernel
theorem dX1_stepOf_14 : decode cX1_stepOf 14 = .ok (.istore 5, 2) := by decide +kernel
theorem dX1_stepOf_16 : decode cX1_stepOf 16 = .ok (.iload 5, 2) := by decide +kernel
theorem dX1_stepOf_18 : decode cX1_stepOf 18 = .ok (.iload_n 2, 1) := by decide +kernel
theorem dX1_stepOf_19 : decode cX1_stepOf 19 = .ok (.if_icmp .ge 25, 3) := by decide +kernel
theorem dX1_stepOf_22 : decode cX1_stepOf 22 = .ok (.aload_n 0, 1) := by decide +kernel
theorem dX1_stepOf_23 : decode cX1_stepOf 23 = .ok (.iload 4, 2) := by decide +kernel
theorem dX1_stepOf_25 : decode cX1_stepOf 25 = .ok (.iload_n 3, 1) := by decide +kernel
theorem dX1_stepOf_26 : decode cX1_stepOf 26 = .ok (.invokevirtual 46, 3) := by decide +kernel
theorem dX1_stepOf_29 : decode cX1_stepOf 29 = .ok (.istore_n 3, 1) := by decide +kernel
theorem dX1_stepOf_30 : decode cX1_stepOf 30 = .ok (.iload 4, 2) := by decide +kernel
theorem dX1_stepOf_32 : decode cX1_stepOf 32 = .ok (.iload_n 3, 1) := by decide +kernel
theorem dX1_stepOf_33 : decode cX1_stepOf 33 = .ok (.invokestatic 49, 3) := by decide +kernel
theorem dX1_stepOf_36 : decode cX1_stepOf 36 = .ok (.istore 4, 2) := by decide +kernel
theorem dX1_stepOf_38 : decode cX1_stepOf 38 = .ok (.iinc 5 1, 3) := by decide +kernel
theorem dX1_stepOf_41 : decode cX1_stepOf 41 = .ok (.goto (-25), 3) := by decide +kernel
theorem dX1_stepOf_44 : decode cX1_stepOf 44 = .ok (.iload_n 3, 1) := by decide +kernel
theorem dX1_stepOf_45 : decode cX1_stepOf 45 = .ok (.ireturn, 1) := by decide +kernel
set_option maxRecDepth 20000 in
theorem ggX1_allBut_X1_without : GoodIn wsX1_allBut wsX1_without := goodIn_r _ [5] (by decide +kernel) (by decide +kernel)
set_option maxRecDepth 20000 in
theorem gX1_allBut_X1_without : GoodIn wsX1_allBut (va_wsS RX1 49 yX1_without wsX1_without) := goodIn_app (goodIn_of _ (by decide +kernel)) ggX1_allBut_X1_without
theorem dX1_allBut_0 : decode cX1_allBut 0 = .ok (.iconst 1, 1) := by decide +kernel
theorem dX1_allBut_1 : decode cX1_allBut 1 = .ok (.aload_n 0, 1) := by decide +kernel
theorem dX1_allBut_2 : decode cX1_allBut 2 = .ok (.getfield 24, 3) := by decide +kernel
theorem dX1_allBut_5 : decode cX1_allBut 5 = .ok (.ishl, 1) := by decide +kernel
theorem dX1_allBut_6 : decode cX1_allBut 6 = .ok (.iconst 1, 1) := by decide +kernel
theorem dX1_allBut_7 : decode cX1_allBut 7 = .ok (.isub, 1) := by decide +kernel
theorem dX1_allBut_8 : decode cX1_allBut 8 = .ok (.iload_n 1, 1) := by decide +kernel
theorem dX1_allBut_9 : decode cX1_allBut 9 = .ok (.invokestatic 49, 3) := by decide +kernel
theorem dX1_allBut_12 : decode cX1_allBut 12 = .ok (.ireturn, 1) := by decide +kernel
theorem dX1_without_0 : decode cX1_without 0 = .ok (.iload_n 0, 1) := by decide +kernel
theorem dX1_without_1 : decode cX1_without 1 = .ok (.iconst 1, 1) := by decide +kernel
theorem dX1_without_2 : decode cX1_without 2 = .ok (.iload_n 1, 1) := by decide +kernel
theorem dX1_without_3 : decode cX1_without 3 = .ok (.ishl, 1) := by decide +kernel
theorem dX1_without_4 : decode cX1_without 4 = .ok (.iconst (-1), 1) := by decide +kernel
theorem dX1_without_5 : decode cX1_without 5 = .ok (.ixor, 1) := by decide +kernel
theorem dX1_without_6 : decode cX1_without 6 = .ok (.iand, 1) := by decide +kernel
theorem dX1_without_7 : decode cX1_without 7 = .ok (.ireturn, 1) := by decide +kernel
theorem dX1_has_0 : decode cX1_has 0 = .ok (.iload_n 0, 1) := by decide +kernel
theorem dX1_has_1 : decode cX1_has 1 = .ok (.iload_n 1, 1) := by decide +kernel
theorem dX1_has_2 : decode cX1_has 2 = .ok (.ishr, 1) := by decide +kernel
theorem dX1_has_3 : decode cX1_has 3 = .ok (.iconst 1, 1) := by decide +kernel
theorem dX1_has_4 : decode cX1_has 4 = .ok (.iand, 1) := by decide +kernel
theorem dX1_has_5 : decode cX1_has 5 = .ok (.iconst 1, 1) := by decide +kernel
theorem dX1_has_6 : decode cX1_has 6 = .ok (.if_icmp .ne 7, 3) := by decide +kernel
theorem dX1_has_9 : decode cX1_has 9 = .ok (.iconst 1, 1) := by decide +kernel
theorem dX1_has_10 : decode cX1_has 10 = .ok (.goto 4, 3) := by decide +kernel
theorem dX1_has_13 : decode cX1_has 13 = .ok (.iconst 0, 1) := by decide +kernel
theorem dX1_has_14 : decode cX1_has 14 = .ok (.ireturn, 1) := by decide +kernel
theorem dX1_restOf_0 : decode cX1_restOf 0 = .ok (.aload_n 0, 1) := by decide +kernel
theorem dX1_restOf_1 : decode cX1_restOf 1 = .ok (.getfield 15, 3) := by decide +kernel
theorem dX1_restOf_4 : decode cX1_restOf 4 = .ok (.iload_n 1, 1) := by decide +kernel
theorem dX1_restOf_5 : decode cX1_restOf 5 = .ok (.bipush 9, 2) := by decide +kernel
theorem dX1_restOf_7 : decode cX1_restOf 7 = .ok (.imul, 1) := by decide +kernel
theorem dX1_restOf_8 : decode cX1_restOf 8 = .ok (.iload_n 2, 1) := by decide +kernel
theorem dX1_restOf_9 : decode cX1_restOf 9 = .ok (.iadd, 1) := by decide +kernel
theorem dX1_restOf_10 : decode cX1_restOf 10 = .ok (.iaload, 1) := by decide +kernel
theorem dX1_restOf_11 : decode cX1_restOf 11 = .ok (.ireturn, 1) := by decide +kernel
set_option maxRecDepth 20000 in
theorem ggX1_weighAll_X1_has : GoodIn wsX1_weighAll wsX1_has := goodIn_r _ [7] (by decide +kernel) (by decide +kernel)
set_option maxRecDepth 20000 in
theorem gX1_weighAll_X1_has : GoodIn wsX1_weighAll (va_wsS RX1 52 yX1_has wsX1_has) := goodIn_app (goodIn_of _ (by decide +kernel)) ggX1_weighAll_X1_has
set_option maxRecDepth 20000 in
theorem ggX1_weighAll_X1_lesserStep : GoodIn wsX1_weighAll wsX1_lesserStep := goodIn_r _ [11, 12, 2, 4, 5, 6, 7, 13, 14, 15, 16, 17, 18, 19, 20, 21, 22, 23, 24, 25, 26, 27, 28, 3, 29, 30, 31, 32] (by decide +kernel) (by decide +kernel)
set_option maxRecDepth 20000 in
theorem gX1_weighAll_X1_lesserStep : GoodIn wsX1_weighAll (wsV RX1 46 RX1 yX1_lesserStep wsX1_lesserStep) := goodIn_app (goodIn_of _ (by decide +kernel)) ggX1_weighAll_X1_lesserStep
set_option maxRecDepth 20000 in
theorem ggX1_weighAll_X1_throughStep : GoodIn wsX1_weighAll wsX1_throughStep := goodIn_r _ [16, 17, 18, 19, 6, 20, 21, 22, 23, 24, 25, 26, 27, 28, 3, 29, 30, 31, 32] (by decide +kernel) (by decide +kernel)
set_option maxRecDepth 20000 in
theorem gX1_weighAll_X1_throughStep : GoodIn wsX1_weighAll (wsV RX1 56 RX1 yX1_throughStep wsX1_throughStep) := goodIn_app (goodIn_of _ (by decide +kernel)) ggX1_weighAll_X1_throughStep
theorem dX1_weighAll_0 : decode cX1_weighAll 0 = .ok (.aload_n 0, 1) := by decide +kernel
theorem dX1_weighAll_1 : decode cX1_weighAll 1 = .ok (.getfield 28, 3) := by decide +kernel
theorem dX1_weighAll_4 : decode cX1_weighAll 4 = .ok (.ifCond .eq 4, 3) := by decide +kernel
theorem dX1_weighAll_7 : decode cX1_weighAll 7 = .ok (.return_, 1) := by decide +kernel
theorem dX1_weighAll_8 : decode cX1_weighAll 8 = .ok (.iconst 0, 1) := by decide +kernel
theorem dX1_weighAll_9 : decode cX1_weighAll 9 = .ok (.istore_n 1, 1) := by decide +kernel
theorem dX1_weighAll_10 : decode cX1_weighAll 10 = .ok (.iload_n 1, 1) := by decide +kernel
theorem dX1_weighAll_11 : decode cX1_weighAll 11 = .ok (.iconst 1, 1) := by decide +kernel
theorem dX1_weighAll_12 : decode cX1_weighAll 12 = .ok (.aload_n 0, 1) := by decide +kernel
theorem dX1_weighAll_13 : decode cX1_weighAll 13 = .ok (.getfield 24, 3) := by decide +kernel
theorem dX1_weighAll_16 : decode cX1_weighAll 16 = .ok (.ishl, 1) := by decide +kernel
theorem dX1_weighAll_17 : decode cX1_weighAll 17 = .ok (.if_icmp .ge 64, 3) := by decide +kernel
theorem dX1_weighAll_20 : decode cX1_weighAll 20 = .ok (.iconst 0, 1) := by decide +kernel
theorem dX1_weighAll_21 : decode cX1_weighAll 21 = .ok (.istore_n 2, 1) := by decide +kernel
theorem dX1_weighAll_22 : decode cX1_weighAll 22 = .ok (.iload_n 2, 1) := by decide +kernel
theorem dX1_weighAll_23 : decode cX1_weighAll 23 = .ok (.aload_n 0, 1) := by decide +kernel
theorem dX1_weighAll_24 : decode cX1_weighAll 24 = .ok (.getfield 24, 3) := by decide +kernel
theorem dX1_weighAll_27 : decode cX1_weighAll 27 = .ok (.if_icmp .ge 48, 3) := by decide +kernel
theorem dX1_weighAll_30 : decode cX1_weighAll 30 = .ok (.iload_n 1, 1) := by decide +kernel
theorem dX1_weighAll_31 : decode cX1_weighAll 31 = .ok (.iload_n 2, 1) := by decide +kernel
theorem dX1_weighAll_32 : decode cX1_weighAll 32 = .ok (.invokestatic 52, 3) := by decide +kernel
theorem dX1_weighAll_35 : decode cX1_weighAll 35 = .ok (.ifCond .ne 34, 3) := by decide +kernel
theorem dX1_weighAll_38 : decode cX1_weighAll 38 = .ok (.aload_n 0, 1) := by decide +kernel
theorem dX1_weighAll_39 : decode cX1_weighAll 39 = .ok (.getfield 15, 3) := by decide +kernel
theorem dX1_weighAll_42 : decode cX1_weighAll 42 = .ok (.iload_n 1, 1) := by decide +kernel
theorem dX1_weighAll_43 : decode cX1_weighAll 43 = .ok (.bipush 9, 2) := by decide +kernel
theorem dX1_weighAll_45 : decode cX1_weighAll 45 = .ok (.imul, 1) := by decide +kernel
theorem dX1_weighAll_46 : decode cX1_weighAll 46 = .ok (.iload_n 2, 1) := by decide +kernel
theorem dX1_weighAll_47 : decode cX1_weighAll 47 = .ok (.iadd, 1) := by decide +kernel
theorem dX1_weighAll_48 : decode cX1_weighAll 48 = .ok (.iload_n 1, 1) := by decide +kernel
theorem dX1_weighAll_49 : decode cX1_weighAll 49 = .ok (.ifCond .ne 7, 3) := by decide +kernel
theorem dX1_weighAll_52 : decode cX1_weighAll 52 = .ok (.iconst 0, 1) := by decide +kernel
theorem dX1_weighAll_53 : decode cX1_weighAll 53 = .ok (.goto 15, 3) := by decide +kernel
theorem dX1_weighAll_56 : decode cX1_weighAll 56 = .ok (.aload_n 0, 1) := by decide +kernel
theorem dX1_weighAll_57 : decode cX1_weighAll 57 = .ok (.iload_n 1, 1) := by decide +kernel
theorem dX1_weighAll_58 : decode cX1_weighAll 58 = .ok (.iload_n 2, 1) := by decide +kernel
theorem dX1_weighAll_59 : decode cX1_weighAll 59 = .ok (.aload_n 0, 1) := by decide +kernel
theorem dX1_weighAll_60 : decode cX1_weighAll 60 = .ok (.iload_n 1, 1) := by decide +kernel
theorem dX1_weighAll_61 : decode cX1_weighAll 61 = .ok (.iload_n 2, 1) := by decide +kernel
theorem dX1_weighAll_62 : decode cX1_weighAll 62 = .ok (.invokevirtual 46, 3) := by decide +kernel
theorem dX1_weighAll_65 : decode cX1_weighAll 65 = .ok (.invokevirtual 56, 3) := by decide +kernel
theorem dX1_weighAll_68 : decode cX1_weighAll 68 = .ok (.iastore, 1) := by decide +kernel
theorem dX1_weighAll_69 : decode cX1_weighAll 69 = .ok (.iinc 2 1, 3) := by decide +kernel
theorem dX1_weighAll_72 : decode cX1_weighAll 72 = .ok (.goto (-50), 3) := by decide +kernel
theorem dX1_weighAll_75 : decode cX1_weighAll 75 = .ok (.iinc 1 1, 3) := by decide +kernel
theorem dX1_weighAll_78 : decode cX1_weighAll 78 = .ok (.goto (-68), 3) := by decide +kernel
theorem dX1_weighAll_81 : decode cX1_weighAll 81 = .ok (.aload_n 0, 1) := by decide +kernel
theorem dX1_weighAll_82 : decode cX1_weighAll 82 = .ok (.iconst 1, 1) := by decide +kernel
theorem dX1_weighAll_83 : decode cX1_weighAll 83 = .ok (.putfield 28, 3) := by decide +kernel
theorem dX1_weighAll_86 : decode cX1_weighAll 86 = .ok (.return_, 1) := by decide +kernel
set_option maxRecDepth 20000 in
theorem ggX1_throughStep_X1_costOf : GoodIn wsX1_throughStep wsX1_costOf := goodIn_r _ [5, 6, 15, 16, 17, 18] (by decide +kernel) (by decide +kernel)
set_option maxRecDepth 20000 in
theorem gX1_throughStep_X1_costOf : GoodIn wsX1_throughStep (wsV RX1 32 RX1 yX1_costOf wsX1_costOf) := goodIn_app (goodIn_of _ (by decide +kernel)) ggX1_throughStep_X1_costOf
set_option maxRecDepth 20000 in
theorem ggX1_throughStep_X1_without : GoodIn wsX1_throughStep wsX1_without := goodIn_r _ [9] (by decide +kernel) (by decide +kernel)
set_option maxRecDepth 20000 in
theorem gX1_throughStep_X1_without : GoodIn wsX1_throughStep (va_wsS RX1 49 yX1_without wsX1_without) := goodIn_app (goodIn_of _ (by decide +kernel)) ggX1_throughStep_X1_without
set_option maxRecDepth 20000 in
theorem ggX1_throughStep_X1_restOf : GoodIn wsX1_throughStep wsX1_restOf := goodIn_r _ [13, 14, 15, 16, 17, 18] (by decide +kernel) (by decide +kernel)
set_option maxRecDepth 20000 in
theorem gX1_throughStep_X1_restOf : GoodIn wsX1_throughStep (wsV RX1 43 RX1 yX1_restOf wsX1_restOf) := goodIn_app (goodIn_of _ (by decide +kernel)) ggX1_throughStep_X1_restOf
theorem dX1_throughStep_0 : decode cX1_throughStep 0 = .ok (.aload_n 0, 1) := by decide +kernel
theorem dX1_throughStep_1 : decode cX1_throughStep 1 = .ok (.iload_n 2, 1) := by decide +kernel
theorem dX1_throughStep_2 : decode cX1_throughStep 2 = .ok (.iload_n 3, 1) := by decide +kernel
theorem dX1_throughStep_3 : decode cX1_throughStep 3 = .ok (.invokevirtual 32, 3) := by decide +kernel
theorem dX1_throughStep_6 : decode cX1_throughStep 6 = .ok (.aload_n 0, 1) := by decide +kernel
theorem dX1_throughStep_7 : decode cX1_throughStep 7 = .ok (.iload_n 1, 1) := by decide +kernel
theorem dX1_throughStep_8 : decode cX1_throughStep 8 = .ok (.iload_n 3, 1) := by decide +kernel
theorem dX1_throughStep_9 : decode cX1_throughStep 9 = .ok (.invokestatic 49, 3) := by decide +kernel
theorem dX1_throughStep_12 : decode cX1_throughStep 12 = .ok (.iload_n 3, 1) := by decide +kernel
theorem dX1_throughStep_13 : decode cX1_throughStep 13 = .ok (.invokevirtual 43, 3) := by decide +kernel
theorem dX1_throughStep_16 : decode cX1_throughStep 16 = .ok (.iadd, 1) := by decide +kernel
theorem dX1_throughStep_17 : decode cX1_throughStep 17 = .ok (.ireturn, 1) := by decide +kernel
set_option maxRecDepth 20000 in
theorem ggX1_lesserStep_X1_has : GoodIn wsX1_lesserStep wsX1_has := goodIn_r _ [6] (by decide +kernel) (by decide +kernel)
set_option maxRecDepth 20000 in
theorem gX1_lesserStep_X1_has : GoodIn wsX1_lesserStep (va_wsS RX1 52 yX1_has wsX1_has) := goodIn_app (goodIn_of _ (by decide +kernel)) ggX1_lesserStep_X1_has
set_option maxRecDepth 20000 in
theorem ggX1_lesserStep_X1_throughStep : GoodIn wsX1_lesserStep wsX1_throughStep := goodIn_r _ [10, 11, 12, 13, 5, 14, 15, 16, 17, 18, 19, 20, 21, 22, 23, 24, 25, 26, 27] (by decide +kernel) (by decide +kernel)
set_option maxRecDepth 20000 in
theorem gX1_lesserStep_X1_throughStep : GoodIn wsX1_lesserStep (wsV RX1 56 RX1 yX1_throughStep wsX1_throughStep) := goodIn_app (goodIn_of _ (by decide +kernel)) ggX1_lesserStep_X1_throughStep
theorem dX1_lesserStep_0 : decode cX1_lesserStep 0 = .ok (.ldc 60, 2) := by decide +kernel
theorem dX1_lesserStep_2 : decode cX1_lesserStep 2 = .ok (.istore_n 3, 1) := by decide +kernel
theorem dX1_lesserStep_3 : decode cX1_lesserStep 3 = .ok (.iload_n 2, 1) := by decide +kernel
theorem dX1_lesserStep_4 : decode cX1_lesserStep 4 = .ok (.istore 4, 2) := by decide +kernel
theorem dX1_lesserStep_6 : decode cX1_lesserStep 6 = .ok (.iconst 0, 1) := by decide +kernel
theorem dX1_lesserStep_7 : decode cX1_lesserStep 7 = .ok (.istore 5, 2) := by decide +kernel
theorem dX1_lesserStep_9 : decode cX1_lesserStep 9 = .ok (.iload 5, 2) := by decide +kernel
theorem dX1_lesserStep_11 : decode cX1_lesserStep 11 = .ok (.aload_n 0, 1) := by decide +kernel
theorem dX1_lesserStep_12 : decode cX1_lesserStep 12 = .ok (.getfield 24, 3) := by decide +kernel
theorem dX1_lesserStep_15 : decode cX1_lesserStep 15 = .ok (.if_icmp .ge 41, 3) := by decide +kernel
theorem dX1_lesserStep_18 : decode cX1_lesserStep 18 = .ok (.iload_n 1, 1) := by decide +kernel
theorem dX1_lesserStep_19 : decode cX1_lesserStep 19 = .ok (.iload 5, 2) := by decide +kernel
theorem dX1_lesserStep_21 : decode cX1_lesserStep 21 = .ok (.invokestatic 52, 3) := by decide +kernel
theorem dX1_lesserStep_24 : decode cX1_lesserStep 24 = .ok (.ifCond .eq 26, 3) := by decide +kernel
theorem dX1_lesserStep_27 : decode cX1_lesserStep 27 = .ok (.aload_n 0, 1) := by decide +kernel
theorem dX1_lesserStep_28 : decode cX1_lesserStep 28 = .ok (.iload_n 1, 1) := by decide +kernel
theorem dX1_lesserStep_29 : decode cX1_lesserStep 29 = .ok (.iload_n 2, 1) := by decide +kernel
theorem dX1_lesserStep_30 : decode cX1_lesserStep 30 = .ok (.iload 5, 2) := by decide +kernel
theorem dX1_lesserStep_32 : decode cX1_lesserStep 32 = .ok (.invokevirtual 56, 3) := by decide +kernel
theorem dX1_lesserStep_35 : decode cX1_lesserStep 35 = .ok (.istore 6, 2) := by decide +kernel
theorem dX1_lesserStep_37 : decode cX1_lesserStep 37 = .ok (.iload 6, 2) := by decide +kernel
theorem dX1_lesserStep_39 : decode cX1_lesserStep 39 = .ok (.iload_n 3, 1) := by decide +kernel
theorem dX1_lesserStep_40 : decode cX1_lesserStep 40 = .ok (.if_icmp .ge 10, 3) := by decide +kernel
theorem dX1_lesserStep_43 : decode cX1_lesserStep 43 = .ok (.iload 6, 2) := by decide +kernel
theorem dX1_lesserStep_45 : decode cX1_lesserStep 45 = .ok (.istore_n 3, 1) := by decide +kernel
theorem dX1_lesserStep_46 : decode cX1_lesserStep 46 = .ok (.iload 5, 2) := by decide +kernel
theorem dX1_lesserStep_48 : decode cX1_lesserStep 48 = .ok (.istore 4, 2) := by decide +kernel
theorem dX1_lesserStep_50 : decode cX1_lesserStep 50 = .ok (.iinc 5 1, 3) := by decide +kernel
theorem dX1_lesserStep_53 : decode cX1_lesserStep 53 = .ok (.goto (-44), 3) := by decide +kernel
theorem dX1_lesserStep_56 : decode cX1_lesserStep 56 = .ok (.iload 4, 2) := by decide +kernel
theorem dX1_lesserStep_58 : decode cX1_lesserStep 58 = .ok (.ireturn, 1) := by decide +kernel
