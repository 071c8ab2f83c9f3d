set_option maxRecDepth 20000 in
theorem gX5_base_X5_isPlace : GoodIn wsX5_base (wsV RX5 85 RX5 yX5_isPlace wsX5_isPlace) := goodIn_app (goodIn_of _ (by decide +kernel)) ggX5_base_X5_isPlace
set_option maxRecDepth 20000 in
theorem ggX5_base_X5_in : GoodIn wsX5_base wsX5_in := goodIn_r _ [10] (by decide +kernel) (by decide +kernel)
set_option maxRecDepth 20000 in
theorem gX5_base_X5_in : GoodIn wsX5_base (va_wsS RX5 75 yX5_in wsX5_in) := goodIn_app (goodIn_of _ (by decide +kernel)) ggX5_base_X5_in
theorem dX5_base_0 : decode cX5_base 0 = .ok (.aload_n 0, 1) := by decide +kernel
theorem dX5_base_1 : decode cX5_base 1 = .ok (.iload_n 1, 1) := by decide +kernel
theorem dX5_base_2 : decode cX5_base 2 = .ok (.invokevirtual 85, 3) := by decide +kernel
theorem dX5_base_5 : decode cX5_base 5 = .ok (.ifCond .ne 5, 3) := by decide +kernel
theorem dX5_base_8 : decode cX5_base 8 = .ok (.iconst (-1), 1) := by decide +kernel
theorem dX5_base_9 : decode cX5_base 9 = .ok (.ireturn, 1) := by decide +kernel
theorem dX5_base_10 : decode cX5_base 10 = .ok (.iload_n 2, 1) := by decide +kernel
theorem dX5_base_11 : decode cX5_base 11 = .ok (.sipush (-2000), 3) := by decide +kernel
theorem dX5_base_14 : decode cX5_base 14 = .ok (.sipush 2000, 3) := by decide +kernel
theorem dX5_base_17 : decode cX5_base 17 = .ok (.invokestatic 75, 3) := by decide +kernel
theorem dX5_base_20 : decode cX5_base 20 = .ok (.ifCond .ne 6, 3) := by decide +kernel
theorem dX5_base_23 : decode cX5_base 23 = .ok (.bipush (-2), 2) := by decide +kernel
theorem dX5_base_25 : decode cX5_base 25 = .ok (.ireturn, 1) := by decide +kernel
theorem dX5_base_26 : decode cX5_base 26 = .ok (.aload_n 0, 1) := by decide +kernel
theorem dX5_base_27 : decode cX5_base 27 = .ok (.getfield 33, 3) := by decide +kernel
theorem dX5_base_30 : decode cX5_base 30 = .ok (.iload_n 1, 1) := by decide +kernel
theorem dX5_base_31 : decode cX5_base 31 = .ok (.iload_n 2, 1) := by decide +kernel
theorem dX5_base_32 : decode cX5_base 32 = .ok (.iastore, 1) := by decide +kernel
theorem dX5_base_33 : decode cX5_base 33 = .ok (.iconst 1, 1) := by decide +kernel
theorem dX5_base_34 : decode cX5_base 34 = .ok (.ireturn, 1) := by decide +kernel
set_option maxRecDepth 20000 in
theorem ggX5_set_X5_isPlace : GoodIn wsX5_set wsX5_isPlace := goodIn_r _ [8, 9, 10, 11, 7, 12, 20, 21, 22, 23, 24, 25, 26, 27, 28, 29, 30, 31, 32, 33, 34, 35, 36, 37, 38, 39, 40, 41, 42, 43] (by decide +kernel) (by decide +kernel)
set_option maxRecDepth 20000 in
theorem gX5_set_X5_isPlace : GoodIn wsX5_set (wsV RX5 85 RX5 yX5_isPlace wsX5_isPlace) := goodIn_app (goodIn_of _ (by decide +kernel)) ggX5_set_X5_isPlace
set_option maxRecDepth 20000 in
theorem ggX5_set_X5_in : GoodIn wsX5_set wsX5_in := goodIn_r _ [12] (by decide +kernel) (by decide +kernel)
set_option maxRecDepth 20000 in
theorem gX5_set_X5_in : GoodIn wsX5_set (va_wsS RX5 75 yX5_in wsX5_in) := goodIn_app (goodIn_of _ (by decide +kernel)) ggX5_set_X5_in
set_option maxRecDepth 20000 in
theorem ggX5_set_X5_areLawful : GoodIn wsX5_set wsX5_areLawful := goodIn_r _ [16, 9, 1, 17, 18, 7, 19, 20, 21, 22, 23, 24, 25, 26, 27, 28, 29, 30, 31, 32, 33, 34, 35, 36, 37, 38, 39, 40, 41, 42, 43] (by decide +kernel) (by decide +kernel)
set_option maxRecDepth 20000 in
theorem gX5_set_X5_areLawful : GoodIn wsX5_set (wsV RX5 102 RX5 yX5_areLawful wsX5_areLawful) := goodIn_app (goodIn_of _ (by decide +kernel)) ggX5_set_X5_areLawful
theorem dX5_set_0 : decode cX5_set 0 = .ok (.aload_n 0, 1) := by decide +kernel
theorem dX5_set_1 : decode cX5_set 1 = .ok (.iload_n 1, 1) := by decide +kernel
theorem dX5_set_2 : decode cX5_set 2 = .ok (.invokevirtual 85, 3) := by decide +kernel
theorem dX5_set_5 : decode cX5_set 5 = .ok (.ifCond .ne 5, 3) := by decide +kernel
theorem dX5_set_8 : decode cX5_set 8 = .ok (.iconst (-1), 1) := by decide +kernel
theorem dX5_set_9 : decode cX5_set 9 = .ok (.ireturn, 1) := by decide +kernel
theorem dX5_set_10 : decode cX5_set 10 = .ok (.iload_n 2, 1) := by decide +kernel
theorem dX5_set_11 : decode cX5_set 11 = .ok (.bipush (-10), 2) := by decide +kernel
theorem dX5_set_13 : decode cX5_set 13 = .ok (.bipush 10, 2) := by decide +kernel
theorem dX5_set_15 : decode cX5_set 15 = .ok (.invokestatic 75, 3) := by decide +kernel
theorem dX5_set_18 : decode cX5_set 18 = .ok (.ifCond .ne 6, 3) := by decide +kernel
theorem dX5_set_21 : decode cX5_set 21 = .ok (.bipush (-2), 2) := by decide +kernel
theorem dX5_set_23 : decode cX5_set 23 = .ok (.ireturn, 1) := by decide +kernel
theorem dX5_set_24 : decode cX5_set 24 = .ok (.aload_n 0, 1) := by decide +kernel
theorem dX5_set_25 : decode cX5_set 25 = .ok (.getfield 36, 3) := by decide +kernel
theorem dX5_set_28 : decode cX5_set 28 = .ok (.iload_n 1, 1) := by decide +kernel
theorem dX5_set_29 : decode cX5_set 29 = .ok (.iaload, 1) := by decide +kernel
theorem dX5_set_30 : decode cX5_set 30 = .ok (.istore_n 3, 1) := by decide +kernel
theorem dX5_set_31 : decode cX5_set 31 = .ok (.aload_n 0, 1) := by decide +kernel
theorem dX5_set_32 : decode cX5_set 32 = .ok (.getfield 36, 3) := by decide +kernel
theorem dX5_set_35 : decode cX5_set 35 = .ok (.iload_n 1, 1) := by decide +kernel
theorem dX5_set_36 : decode cX5_set 36 = .ok (.iload_n 2, 1) := by decide +kernel
theorem dX5_set_37 : decode cX5_set 37 = .ok (.iastore, 1) := by decide +kernel
theorem dX5_set_38 : decode cX5_set 38 = .ok (.aload_n 0, 1) := by decide +kernel
theorem dX5_set_39 : decode cX5_set 39 = .ok (.aload_n 0, 1) := by decide +kernel
theorem dX5_set_40 : decode cX5_set 40 = .ok (.getfield 39, 3) := by decide +kernel
theorem dX5_set_43 : decode cX5_set 43 = .ok (.aload_n 0, 1) := by decide +kernel
theorem dX5_set_44 : decode cX5_set 44 = .ok (.getfield 42, 3) := by decide +kernel
theorem dX5_set_47 : decode cX5_set 47 = .ok (.invokevirtual 102, 3) := by decide +kernel
theorem dX5_set_50 : decode cX5_set 50 = .ok (.ifCond .ne 13, 3) := by decide +kernel
theorem dX5_set_53 : decode cX5_set 53 = .ok (.aload_n 0, 1) := by decide +kernel
theorem dX5_set_54 : decode cX5_set 54 = .ok (.getfield 36, 3) := by decide +kernel
theorem dX5_set_57 : decode cX5_set 57 = .ok (.iload_n 1, 1) := by decide +kernel
theorem dX5_set_58 : decode cX5_set 58 = .ok (.iload_n 3, 1) := by decide +kernel
theorem dX5_set_59 : decode cX5_set 59 = .ok (.iastore, 1) := by decide +kernel
theorem dX5_set_60 : decode cX5_set 60 = .ok (.bipush (-5), 2) := by decide +kernel
theorem dX5_set_62 : decode cX5_set 62 = .ok (.ireturn, 1) := by decide +kernel
theorem dX5_set_63 : decode cX5_set 63 = .ok (.iconst 1, 1) := by decide +kernel
theorem dX5_set_64 : decode cX5_set 64 = .ok (.ireturn, 1) := by decide +kernel
theorem dX5_error_0 : decode cX5_error 0 = .ok (.iload_n 1, 1) := by decide +kernel
theorem dX5_error_1 : decode cX5_error 1 = .ok (.ifCond .le 14, 3) := by decide +kernel
theorem dX5_error_4 : decode cX5_error 4 = .ok (.aload_n 0, 1) := by decide +kernel
theorem dX5_error_5 : decode cX5_error 5 = .ok (.getfield 36, 3) := by decide +kernel
theorem dX5_error_8 : decode cX5_error 8 = .ok (.iload_n 1, 1) := by decide +kernel
theorem dX5_error_9 : decode cX5_error 9 = .ok (.iconst 1, 1) := by decide +kernel
theorem dX5_error_10 : decode cX5_error 10 = .ok (.isub, 1) := by decide +kernel
theorem dX5_error_11 : decode cX5_error 11 = .ok (.iaload, 1) := by decide +kernel
theorem dX5_error_12 : decode cX5_error 12 = .ok (.goto 4, 3) := by decide +kernel
theorem dX5_error_15 : decode cX5_error 15 = .ok (.iconst 0, 1) := by decide +kernel
theorem dX5_error_16 : decode cX5_error 16 = .ok (.istore_n 2, 1) := by decide +kernel
theorem dX5_error_17 : decode cX5_error 17 = .ok (.iload_n 1, 1) := by decide +kernel
theorem dX5_error_18 : decode cX5_error 18 = .ok (.iconst 1, 1) := by decide +kernel
theorem dX5_error_19 : decode cX5_error 19 = .ok (.iadd, 1) := by decide +kernel
theorem dX5_error_20 : decode cX5_error 20 = .ok (.aload_n 0, 1) := by decide +kernel
theorem dX5_error_21 : decode cX5_error 21 = .ok (.getfield 7, 3) := by decide +kernel
theorem dX5_error_24 : decode cX5_error 24 = .ok (.if_icmp .ge 14, 3) := by decide +kernel
theorem dX5_error_27 : decode cX5_error 27 = .ok (.aload_n 0, 1) := by decide +kernel
theorem dX5_error_28 : decode cX5_error 28 = .ok (.getfield 36, 3) := by decide +kernel
theorem dX5_error_31 : decode cX5_error 31 = .ok (.iload_n 1, 1) := by decide +kernel
theorem dX5_error_32 : decode cX5_error 32 = .ok (.iconst 1, 1) := by decide +kernel
theorem dX5_error_33 : decode cX5_error 33 = .ok (.iadd, 1) := by decide +kernel
theorem dX5_error_34 : decode cX5_error 34 = .ok (.iaload, 1) := by decide +kernel
theorem dX5_error_35 : decode cX5_error 35 = .ok (.goto 4, 3) := by decide +kernel
theorem dX5_error_38 : decode cX5_error 38 = .ok (.iconst 0, 1) := by decide +kernel
theorem dX5_error_39 : decode cX5_error 39 = .ok (.istore_n 3, 1) := by decide +kernel
theorem dX5_error_40 : decode cX5_error 40 = .ok (.aload_n 0, 1) := by decide +kernel
theorem dX5_error_41 : decode cX5_error 41 = .ok (.getfield 33, 3) := by decide +kernel
theorem dX5_error_44 : decode cX5_error 44 = .ok (.iload_n 1, 1) := by decide +kernel
theorem dX5_error_45 : decode cX5_error 45 = .ok (.iaload, 1) := by decide +kernel
theorem dX5_error_46 : decode cX5_error 46 = .ok (.aload_n 0, 1) := by decide +kernel
theorem dX5_error_47 : decode cX5_error 47 = .ok (.getfield 45, 3) := by decide +kernel
theorem dX5_error_50 : decode cX5_error 50 = .ok (.aload_n 0, 1) := by decide +kernel
theorem dX5_error_51 : decode cX5_error 51 = .ok (.getfield 36, 3) := by decide +kernel
theorem dX5_error_54 : decode cX5_error 54 = .ok (.iload_n 1, 1) := by decide +kernel
theorem dX5_error_55 : decode cX5_error 55 = .ok (.iaload, 1) := by decide +kernel
theorem dX5_error_56 : decode cX5_error 56 = .ok (.imul, 1) := by decide +kernel
theorem dX5_error_57 : decode cX5_error 57 = .ok (.iadd, 1) := by decide +kernel
theorem dX5_error_58 : decode cX5_error 58 = .ok (.aload_n 0, 1) := by decide +kernel
theorem dX5_error_59 : decode cX5_error 59 = .ok (.getfield 106, 3) := by decide +kernel
theorem dX5_error_62 : decode cX5_error 62 = .ok (.iload_n 2, 1) := by decide +kernel
theorem dX5_error_63 : decode cX5_error 63 = .ok (.iload_n 3, 1) := by decide +kernel
theorem dX5_error_64 : decode cX5_error 64 = .ok (.iadd, 1) := by decide +kernel
theorem dX5_error_65 : decode cX5_error 65 = .ok (.imul, 1) := by decide +kernel
theorem dX5_error_66 : decode cX5_error 66 = .ok (.iadd, 1) := by decide +kernel
theorem dX5_error_67 : decode cX5_error 67 = .ok (.ireturn, 1) := by decide +kernel
set_option maxRecDepth 20000 in
theorem ggX5_about_X5_isPlace : GoodIn wsX5_about wsX5_isPlace := goodIn_r _ [9, 10, 11, 12, 8, 13, 20, 21, 22, 23, 24, 25, 26, 27, 28, 29, 30, 31, 32, 33, 34, 35, 36, 37, 38, 39, 40, 41, 42, 43] (by decide +kernel) (by decide +kernel)
set_option maxRecDepth 20000 in
theorem gX5_about_X5_isPlace : GoodIn wsX5_about (wsV RX5 85 RX5 yX5_isPlace wsX5_isPlace) := goodIn_app (goodIn_of _ (by decide +kernel)) ggX5_about_X5_isPlace
set_option maxRecDepth 20000 in
theorem ggX5_about_X5_error : GoodIn wsX5_about wsX5_error := goodIn_r _ [17, 2, 10, 3, 18, 19, 20, 21, 22, 23, 24, 25, 26, 27, 28, 29, 30, 31, 32, 33, 34, 35, 36, 37, 38, 39, 40, 41, 42, 43] (by decide +kernel) (by decide +kernel)
set_option maxRecDepth 20000 in
theorem gX5_about_X5_error : GoodIn wsX5_about (wsV RX5 109 RX5 yX5_error wsX5_error) := goodIn_app (goodIn_of _ (by decide +kernel)) ggX5_about_X5_error
theorem dX5_about_0 : decode cX5_about 0 = .ok (.aload_n 0, 1) := by decide +kernel
theorem dX5_about_1 : decode cX5_about 1 = .ok (.iload_n 1, 1) := by decide +kernel
theorem dX5_about_2 : decode cX5_about 2 = .ok (.invokevirtual 85, 3) := by decide +kernel
theorem dX5_about_5 : decode cX5_about 5 = .ok (.ifCond .ne 6, 3) := by decide +kernel
theorem dX5_about_8 : decode cX5_about 8 = .ok (.ldc 89, 2) := by decide +kernel
theorem dX5_about_10 : decode cX5_about 10 = .ok (.ireturn, 1) := by decide +kernel
theorem dX5_about_11 : decode cX5_about 11 = .ok (.iload_n 2, 1) := by decide +kernel
theorem dX5_about_12 : decode cX5_about 12 = .ok (.ifCond .ne 12, 3) := by decide +kernel
theorem dX5_about_15 : decode cX5_about 15 = .ok (.aload_n 0, 1) := by decide +kernel
theorem dX5_about_16 : decode cX5_about 16 = .ok (.getfield 36, 3) := by decide +kernel
theorem dX5_about_19 : decode cX5_about 19 = .ok (.iload_n 1, 1) := by decide +kernel
theorem dX5_about_20 : decode cX5_about 20 = .ok (.iaload, 1) := by decide +kernel
theorem dX5_about_21 : decode cX5_about 21 = .ok (.goto 32, 3) := by decide +kernel
theorem dX5_about_24 : decode cX5_about 24 = .ok (.iload_n 2, 1) := by decide +kernel
theorem dX5_about_25 : decode cX5_about 25 = .ok (.iconst 1, 1) := by decide +kernel
theorem dX5_about_26 : decode cX5_about 26 = .ok (.if_icmp .ne 12, 3) := by decide +kernel
theorem dX5_about_29 : decode cX5_about 29 = .ok (.aload_n 0, 1) := by decide +kernel
theorem dX5_about_30 : decode cX5_about 30 = .ok (.getfield 33, 3) := by decide +kernel
theorem dX5_about_33 : decode cX5_about 33 = .ok (.iload_n 1, 1) := by decide +kernel
theorem dX5_about_34 : decode cX5_about 34 = .ok (.iaload, 1) := by decide +kernel
theorem dX5_about_35 : decode cX5_about 35 = .ok (.goto 18, 3) := by decide +kernel
theorem dX5_about_38 : decode cX5_about 38 = .ok (.iload_n 2, 1) := by decide +kernel
theorem dX5_about_39 : decode cX5_about 39 = .ok (.iconst 2, 1) := by decide +kernel
theorem dX5_about_40 : decode cX5_about 40 = .ok (.if_icmp .ne 11, 3) := by decide +kernel
theorem dX5_about_43 : decode cX5_about 43 = .ok (.aload_n 0, 1) := by decide +kernel
theorem dX5_about_44 : decode cX5_about 44 = .ok (.iload_n 1, 1) := by decide +kernel
theorem dX5_about_45 : decode cX5_about 45 = .ok (.invokevirtual 109, 3) := by decide +kernel
theorem dX5_about_48 : decode cX5_about 48 = .ok (.goto 5, 3) := by decide +kernel
theorem dX5_about_51 : decode cX5_about 51 = .ok (.ldc 90, 2) := by decide +kernel
theorem dX5_about_53 : decode cX5_about 53 = .ok (.ireturn, 1) := by decide +kernel
theorem dX5_with_0 : decode cX5_with 0 = .ok (.iload_n 0, 1) := by decide +kernel
theorem dX5_with_1 : decode cX5_with 1 = .ok (.ifCond .ne 9, 3) := by decide +kernel
theorem dX5_with_4 : decode cX5_with 4 = .ok (.iload_n 1, 1) := by decide +kernel
theorem dX5_with_5 : decode cX5_with 5 = .ok (.iload_n 2, 1) := by decide +kernel
theorem dX5_with_6 : decode cX5_with 6 = .ok (.iadd, 1) := by decide +kernel
theorem dX5_with_7 : decode cX5_with 7 = .ok (.goto 13, 3) := by decide +kernel
theorem dX5_with_10 : decode cX5_with 10 = .ok (.iload_n 1, 1) := by decide +kernel
theorem dX5_with_11 : decode cX5_with 11 = .ok (.iload_n 2, 1) := by decide +kernel
theorem dX5_with_12 : decode cX5_with 12 = .ok (.if_icmp .le 7, 3) := by decide +kernel
theorem dX5_with_15 : decode cX5_with 15 = .ok (.iload_n 1, 1) := by decide +kernel
theorem dX5_with_16 : decode cX5_with 16 = .ok (.goto 4, 3) := by decide +kernel
theorem dX5_with_19 : decode cX5_with 19 = .ok (.iload_n 2, 1) := by decide +kernel
theorem dX5_with_20 : decode cX5_with 20 = .ok (.ireturn, 1) := by decide +kernel
set_option maxRecDepth 20000 in
theorem ggX5_unevenOf_X5_error : GoodIn wsX5_unevenOf wsX5_error := goodIn_r _ [6, 7, 1, 8, 9, 10, 17, 18, 19, 20, 21, 22, 23, 24, 25, 26, 27, 28, 29, 30, 31, 32, 33, 34, 35, 36, 37, 38, 39, 40] (by decide +kernel) (by decide +kernel)
set_option maxRecDepth 20000 in
theorem gX5_unevenOf_X5_error : GoodIn wsX5_unevenOf (wsV RX5 109 RX5 yX5_error wsX5_error) := goodIn_app (goodIn_of _ (by decide +kernel)) ggX5_unevenOf_X5_error
set_option maxRecDepth 20000 in
theorem ggX5_unevenOf_X5_size : GoodIn wsX5_unevenOf wsX5_size := goodIn_r _ [13] (by decide +kernel) (by decide +kernel)
set_option maxRecDepth 20000 in
theorem gX5_unevenOf_X5_size : GoodIn wsX5_unevenOf (va_wsS RX5 99 yX5_size wsX5_size) := goodIn_app (goodIn_of _ (by decide +kernel)) ggX5_unevenOf_X5_size
set_option maxRecDepth 20000 in
theorem ggX5_unevenOf_X5_with : GoodIn wsX5_unevenOf wsX5_with := goodIn_r _ [16] (by decide +kernel) (by decide +kernel)
set_option maxRecDepth 20000 in
theorem gX5_unevenOf_X5_with : GoodIn wsX5_unevenOf (va_wsS RX5 112 yX5_with wsX5_with) := goodIn_app (goodIn_of _ (by decide +kernel)) ggX5_unevenOf_X5_with
theorem dX5_unevenOf_0 : decode cX5_unevenOf 0 = .ok (.iconst 0, 1) := by decide +kernel
theorem dX5_unevenOf_1 : decode cX5_unevenOf 1 = .ok (.istore_n 2, 1) := by decide +kernel
theorem dX5_unevenOf_2 : decode cX5_unevenOf 2 = .ok (.iconst 0, 1) := by decide +kernel
theorem dX5_unevenOf_3 : decode cX5_unevenOf 3 = .ok (.istore_n 3, 1) := by decide +kernel
theorem dX5_unevenOf_4 : decode cX5_unevenOf 4 = .ok (.iload_n 3, 1) := by decide +kernel
theorem dX5_unevenOf_5 : decode cX5_unevenOf 5 = .ok (.aload_n 0, 1) := by decide +kernel
theorem dX5_unevenOf_6 : decode cX5_unevenOf 6 = .ok (.getfield 7, 3) := by decide +kernel
theorem dX5_unevenOf_9 : decode cX5_unevenOf 9 = .ok (.if_icmp .ge 23, 3) := by decide +kernel
theorem dX5_unevenOf_12 : decode cX5_unevenOf 12 = .ok (.iload_n 1, 1) := by decide +kernel
theorem dX5_unevenOf_13 : decode cX5_unevenOf 13 = .ok (.iload_n 2, 1) := by decide +kernel
theorem dX5_unevenOf_14 : decode cX5_unevenOf 14 = .ok (.aload_n 0, 1) := by decide +kernel
theorem dX5_unevenOf_15 : decode cX5_unevenOf 15 = .ok (.iload_n 3, 1) := by decide +kernel
theorem dX5_unevenOf_16 : decode cX5_unevenOf 16 = .ok (.invokevirtual 109, 3) := by decide +kernel
theorem dX5_unevenOf_19 : decode cX5_unevenOf 19 = .ok (.invokestatic 99, 3) := by decide +kernel
theorem dX5_unevenOf_22 : decode cX5_unevenOf 22 = .ok (.invokestatic 112, 3) := by decide +kernel
theorem dX5_unevenOf_25 : decode cX5_unevenOf 25 = .ok (.istore_n 2, 1) := by decide +kernel
theorem dX5_unevenOf_26 : decode cX5_unevenOf 26 = .ok (.iinc 3 1, 3) := by decide +kernel
theorem dX5_unevenOf_29 : decode cX5_unevenOf 29 = .ok (.goto (-25), 3) := by decide +kernel
theorem dX5_unevenOf_32 : decode cX5_unevenOf 32 = .ok (.iload_n 2, 1) := by decide +kernel
theorem dX5_unevenOf_33 : decode cX5_unevenOf 33 = .ok (.ireturn, 1) := by decide +kernel
set_option maxRecDepth 20000 in
theorem ggX5_uneven_X5_in : GoodIn wsX5_uneven wsX5_in := goodIn_r _ [4] (by decide +kernel) (by decide +kernel)
set_option maxRecDepth 20000 in
theorem gX5_uneven_X5_in : GoodIn wsX5_uneven (va_wsS RX5 75 yX5_in wsX5_in) := goodIn_app (goodIn_of _ (by decide +kernel)) ggX5_uneven_X5_in
set_option maxRecDepth 20000 in
theorem ggX5_uneven_X5_unevenOf : GoodIn wsX5_uneven wsX5_unevenOf := goodIn_r _ [8, 9, 10, 11, 12, 3, 13, 14, 15, 16, 17, 18, 19, 20, 21, 22, 23, 24, 25, 26, 27, 28, 29, 30, 31, 32, 33, 34, 35, 36, 37, 38, 39, 40, 41, 42, 43, 44, 45, 46, 47] (by decide +kernel) (by decide +kernel)
set_option maxRecDepth 20000 in
theorem gX5_uneven_X5_unevenOf : GoodIn wsX5_uneven (wsV RX5 116 RX5 yX5_unevenOf wsX5_unevenOf) := goodIn_app (goodIn_of _ (by decide +kernel)) ggX5_uneven_X5_unevenOf
theorem dX5_uneven_0 : decode cX5_uneven 0 = .ok (.iload_n 1, 1) := by decide +kernel
theorem dX5_uneven_1 : decode cX5_uneven 1 = .ok (.iconst 0, 1) := by decide +kernel
theorem dX5_uneven_2 : decode cX5_uneven 2 = .ok (.iconst 1, 1) := by decide +kernel
theorem dX5_uneven_3 : decode cX5_uneven 3 = .ok (.invokestatic 75, 3) := by decide +kernel
theorem dX5_uneven_6 : decode cX5_uneven 6 = .ok (.ifCond .eq 11, 3) := by decide +kernel
theorem dX5_uneven_9 : decode cX5_uneven 9 = .ok (.aload_n 0, 1) := by decide +kernel
theorem dX5_uneven_10 : decode cX5_uneven 10 = .ok (.iload_n 1, 1) := by decide +kernel
theorem dX5_uneven_11 : decode cX5_uneven 11 = .ok (.invokevirtual 116, 3) := by decide +kernel
theorem dX5_uneven_14 : decode cX5_uneven 14 = .ok (.goto 5, 3) := by decide +kernel
theorem dX5_uneven_17 : decode cX5_uneven 17 = .ok (.bipush (-2), 2) := by decide +kernel
theorem dX5_uneven_19 : decode cX5_uneven 19 = .ok (.ireturn, 1) := by decide +kernel
set_option maxRecDepth 20000 in
theorem ggX5_goes_X5_size : GoodIn wsX5_goes wsX5_size := goodIn_r _ [6] (by decide +kernel) (by decide +kernel)
set_option maxRecDepth 20000 in
theorem gX5_goes_X5_size : GoodIn wsX5_goes (va_wsS RX5 99 yX5_size wsX5_size) := goodIn_app (goodIn_of _ (by decide +kernel)) ggX5_goes_X5_size
theorem dX5_goes_0 : decode cX5_goes 0 = .ok (.iload_n 3, 1) := by decide +kernel
theorem dX5_goes_1 : decode cX5_goes 1 = .ok (.iload 4, 2) := by decide +kernel
theorem dX5_goes_3 : decode cX5_goes 3 = .ok (.isub, 1) := by decide +kernel
theorem dX5_goes_4 : decode cX5_goes 4 = .ok (.invokestatic 99, 3) := by decide +kernel
theorem dX5_goes_7 : decode cX5_goes 7 = .ok (.aload_n 0, 1) := by decide +kernel
theorem dX5_goes_8 : decode cX5_goes 8 = .ok (.getfield 39, 3) := by decide +kernel
theorem dX5_goes_11 : decode cX5_goes 11 = .ok (.if_icmp .gt 29, 3) := by decide +kernel
theorem dX5_goes_14 : decode cX5_goes 14 = .ok (.iload_n 1, 1) := by decide +kernel
theorem dX5_goes_15 : decode cX5_goes 15 = .ok (.ifCond .eq 21, 3) := by decide +kernel
theorem dX5_goes_18 : decode cX5_goes 18 = .ok (.iconst 2, 1) := by decide +kernel
theorem dX5_goes_19 : decode cX5_goes 19 = .ok (.iload_n 3, 1) := by decide +kernel
theorem dX5_goes_20 : decode cX5_goes 20 = .ok (.imul, 1) := by decide +kernel
theorem dX5_goes_21 : decode cX5_goes 21 = .ok (.iload_n 2, 1) := by decide +kernel
theorem dX5_goes_22 : decode cX5_goes 22 = .ok (.isub, 1) := by decide +kernel
theorem dX5_goes_23 : decode cX5_goes 23 = .ok (.iload 4, 2) := by decide +kernel
theorem dX5_goes_25 : decode cX5_goes 25 = .ok (.isub, 1) := by decide +kernel
theorem dX5_goes_26 : decode cX5_goes 26 = .ok (.invokestatic 99, 3) := by decide +kernel
theorem dX5_goes_29 : decode cX5_goes 29 = .ok (.aload_n 0, 1) := by decide +kernel
theorem dX5_goes_30 : decode cX5_goes 30 = .ok (.getfield 42, 3) := by decide +kernel
theorem dX5_goes_33 : decode cX5_goes 33 = .ok (.if_icmp .gt 7, 3) := by decide +kernel
theorem dX5_goes_36 : decode cX5_goes 36 = .ok (.iconst 1, 1) := by decide +kernel
theorem dX5_goes_37 : decode cX5_goes 37 = .ok (.goto 4, 3) := by decide +kernel
theorem dX5_goes_40 : decode cX5_goes 40 = .ok (.iconst 0, 1) := by decide +kernel
theorem dX5_goes_41 : decode cX5_goes 41 = .ok (.ireturn, 1) := by decide +kernel
set_option maxRecDepth 20000 in
theorem ggX5_layLeast_X5_size : GoodIn wsX5_layLeast wsX5_size := goodIn_r _ [9] (by decide +kernel) (by decide +kernel)
set_option maxRecDepth 20000 in
theorem gX5_layLeast_X5_size : GoodIn wsX5_layLeast (va_wsS RX5 99 yX5_size wsX5_size) := goodIn_app (goodIn_of _ (by decide +kernel)) ggX5_layLeast_X5_size
set_option maxRecDepth 20000 in
theorem ggX5_layLeast_X5_goes : GoodIn wsX5_layLeast wsX5_goes := goodIn_r _ [13, 14, 15, 6, 7, 8, 9, 19, 20, 21, 22, 23, 24, 25, 26, 27, 28, 29, 30, 31, 32, 33, 34, 35, 36, 37, 38, 39, 40, 41, 42] (by decide +kernel) (by decide +kernel)
set_option maxRecDepth 20000 in
theorem gX5_layLeast_X5_goes : GoodIn wsX5_layLeast (wsV RX5 119 RX5 yX5_goes wsX5_goes) := goodIn_app (goodIn_of _ (by decide +kernel)) ggX5_layLeast_X5_goes
set_option maxRecDepth 20000 in
theorem ggX5_layLeast_X5_with : GoodIn wsX5_layLeast wsX5_with := goodIn_r _ [18] (by decide +kernel) (by decide +kernel)
set_option maxRecDepth 20000 in
theorem gX5_layLeast_X5_with : GoodIn wsX5_layLeast (va_wsS RX5 112 yX5_with wsX5_with) := goodIn_app (goodIn_of _ (by decide +kernel)) ggX5_layLeast_X5_with
theorem dX5_layLeast_0 : decode cX5_layLeast 0 = .ok (.aload_n 0, 1) := by decide +kernel
theorem dX5_layLeast_1 : decode cX5_layLeast 1 = .ok (.getfield 7, 3) := by decide +kernel
theorem dX5_layLeast_4 : decode cX5_layLeast 4 = .ok (.iconst 1, 1) := by decide +kernel
theorem dX5_layLeast_5 : decode cX5_layLeast 5 = .ok (.isub, 1) := by decide +kernel
theorem dX5_layLeast_6 : decode cX5_layLeast 6 = .ok (.istore_n 2, 1) := by decide +kernel
theorem dX5_layLeast_7 : decode cX5_layLeast 7 = .ok (.iload_n 2, 1) := by decide +kernel
theorem dX5_layLeast_8 : decode cX5_layLeast 8 = .ok (.ifCond .lt 239, 3) := by decide +kernel
theorem dX5_layLeast_11 : decode cX5_layLeast 11 = .ok (.bipush (-10), 2) := by decide +kernel
theorem dX5_layLeast_13 : decode cX5_layLeast 13 = .ok (.istore_n 3, 1) := by decide +kernel
theorem dX5_layLeast_14 : decode cX5_layLeast 14 = .ok (.iload_n 3, 1) := by decide +kernel
theorem dX5_layLeast_15 : decode cX5_layLeast 15 = .ok (.bipush 10, 2) := by decide +kernel
theorem dX5_layLeast_17 : decode cX5_layLeast 17 = .ok (.if_icmp .gt 224, 3) := by decide +kernel
theorem dX5_layLeast_20 : decode cX5_layLeast 20 = .ok (.bipush (-10), 2) := by decide +kernel
theorem dX5_layLeast_22 : decode cX5_layLeast 22 = .ok (.istore 4, 2) := by decide +kernel
theorem dX5_layLeast_24 : decode cX5_layLeast 24 = .ok (.iload 4, 2) := by decide +kernel
theorem dX5_layLeast_26 : decode cX5_layLeast 26 = .ok (.bipush 10, 2) := by decide +kernel
theorem dX5_layLeast_28 : decode cX5_layLeast 28 = .ok (.if_icmp .gt 207, 3) := by decide +kernel
theorem dX5_layLeast_31 : decode cX5_layLeast 31 = .ok (.aload_n 0, 1) := by decide +kernel
theorem dX5_layLeast_32 : decode cX5_layLeast 32 = .ok (.getfield 33, 3) := by decide +kernel
theorem dX5_layLeast_35 : decode cX5_layLeast 35 = .ok (.iload_n 2, 1) := by decide +kernel
theorem dX5_layLeast_36 : decode cX5_layLeast 36 = .ok (.iaload, 1) := by decide +kernel
theorem dX5_layLeast_37 : decode cX5_layLeast 37 = .ok (.aload_n 0, 1) := by decide +kernel
theorem dX5_layLeast_38 : decode cX5_layLeast 38 = .ok (.getfield 45, 3) := by decide +kernel
theorem dX5_layLeast_41 : decode cX5_layLeast 41 = .ok (.iload 4, 2) := by decide +kernel
theorem dX5_layLeast_43 : decode cX5_layLeast 43 = .ok (.imul, 1) := by decide +kernel
theorem dX5_layLeast_44 : decode cX5_layLeast 44 = .ok (.iadd, 1) := by decide +kernel
theorem dX5_layLeast_45 : decode cX5_layLeast 45 = .ok (.aload_n 0, 1) := by decide +kernel
theorem dX5_layLeast_46 : decode cX5_layLeast 46 = .ok (.getfield 106, 3) := by decide +kernel
theorem dX5_layLeast_49 : decode cX5_layLeast 49 = .ok (.iload_n 2, 1) := by decide +kernel
theorem dX5_layLeast_50 : decode cX5_layLeast 50 = .ok (.ifCond .ne 7, 3) := by decide +kernel
theorem dX5_layLeast_53 : decode cX5_layLeast 53 = .ok (.iconst 0, 1) := by decide +kernel
theorem dX5_layLeast_54 : decode cX5_layLeast 54 = .ok (.goto 4, 3) := by decide +kernel
theorem dX5_layLeast_57 : decode cX5_layLeast 57 = .ok (.iload_n 3, 1) := by decide +kernel
theorem dX5_layLeast_58 : decode cX5_layLeast 58 = .ok (.imul, 1) := by decide +kernel
theorem dX5_layLeast_59 : decode cX5_layLeast 59 = .ok (.iadd, 1) := by decide +kernel
theorem dX5_layLeast_60 : decode cX5_layLeast 60 = .ok (.istore 5, 2) := by decide +kernel
theorem dX5_layLeast_62 : decode cX5_layLeast 62 = .ok (.iload_n 2, 1) := by decide +kernel
theorem dX5_layLeast_63 : decode cX5_layLeast 63 = .ok (.aload_n 0, 1) := by decide +kernel
theorem dX5_layLeast_64 : decode cX5_layLeast 64 = .ok (.getfield 7, 3) := by decide +kernel
theorem dX5_layLeast_67 : decode cX5_layLeast 67 = .ok (.iconst 1, 1) := by decide +kernel
theorem dX5_layLeast_68 : decode cX5_layLeast 68 = .ok (.isub, 1) := by decide +kernel
theorem dX5_layLeast_69 : decode cX5_layLeast 69 = .ok (.if_icmp .ne 11, 3) := by decide +kernel
theorem dX5_layLeast_72 : decode cX5_layLeast 72 = .ok (.iload 5, 2) := by decide +kernel
theorem dX5_layLeast_74 : decode cX5_layLeast 74 = .ok (.invokestatic 99, 3) := by decide +kernel
theorem dX5_layLeast_77 : decode cX5_layLeast 77 = .ok (.goto 4, 3) := by decide +kernel
theorem dX5_layLeast_80 : decode cX5_layLeast 80 = .ok (.iconst (-1), 1) := by decide +kernel
theorem dX5_layLeast_81 : decode cX5_layLeast 81 = .ok (.istore 6, 2) := by decide +kernel
theorem dX5_layLeast_83 : decode cX5_layLeast 83 = .ok (.bipush (-10), 2) := by decide +kernel
theorem dX5_layLeast_85 : decode cX5_layLeast 85 = .ok (.istore 7, 2) := by decide +kernel
theorem dX5_layLeast_87 : decode cX5_layLeast 87 = .ok (.iload 7, 2) := by decide +kernel
theorem dX5_layLeast_89 : decode cX5_layLeast 89 = .ok (.bipush 10, 2) := by decide +kernel
theorem dX5_layLeast_91 : decode cX5_layLeast 91 = .ok (.if_icmp .gt 112, 3) := by decide +kernel
theorem dX5_layLeast_94 : decode cX5_layLeast 94 = .ok (.iload_n 2, 1) := by decide +kernel
theorem dX5_layLeast_95 : decode cX5_layLeast 95 = .ok (.aload_n 0, 1) := by decide +kernel
theorem dX5_layLeast_96 : decode cX5_layLeast 96 = .ok (.getfield 7, 3) := by decide +kernel
theorem dX5_layLeast_99 : decode cX5_layLeast 99 = .ok (.iconst 1, 1) := by decide +kernel
theorem dX5_layLeast_100 : decode cX5_layLeast 100 = .ok (.isub, 1) := by decide +kernel
theorem dX5_layLeast_101 : decode cX5_layLeast 101 = .ok (.if_icmp .ge 102, 3) := by decide +kernel
theorem dX5_layLeast_104 : decode cX5_layLeast 104 = .ok (.aload_n 0, 1) := by decide +kernel
theorem dX5_layLeast_105 : decode cX5_layLeast 105 = .ok (.iload_n 2, 1) := by decide +kernel
theorem dX5_layLeast_106 : decode cX5_layLeast 106 = .ok (.iload_n 3, 1) := by decide +kernel
theorem dX5_layLeast_107 : decode cX5_layLeast 107 = .ok (.iload 4, 2) := by decide +kernel
theorem dX5_layLeast_109 : decode cX5_layLeast 109 = .ok (.iload 7, 2) := by decide +kernel
theorem dX5_layLeast_111 : decode cX5_layLeast 111 = .ok (.invokevirtual 119, 3) := by decide +kernel
theorem dX5_layLeast_114 : decode cX5_layLeast 114 = .ok (.ifCond .eq 33, 3) := by decide +kernel
theorem dX5_layLeast_117 : decode cX5_layLeast 117 = .ok (.aload_n 0, 1) := by decide +kernel
theorem dX5_layLeast_118 : decode cX5_layLeast 118 = .ok (.getfield 60, 3) := by decide +kernel
theorem dX5_layLeast_121 : decode cX5_layLeast 121 = .ok (.sipush 441, 3) := by decide +kernel
theorem dX5_layLeast_124 : decode cX5_layLeast 124 = .ok (.iload_n 2, 1) := by decide +kernel
theorem dX5_layLeast_125 : decode cX5_layLeast 125 = .ok (.iconst 1, 1) := by decide +kernel
theorem dX5_layLeast_126 : decode cX5_layLeast 126 = .ok (.iadd, 1) := by decide +kernel
theorem dX5_layLeast_127 : decode cX5_layLeast 127 = .ok (.imul, 1) := by decide +kernel
theorem dX5_layLeast_128 : decode cX5_layLeast 128 = .ok (.bipush 21, 2) := by decide +kernel
theorem dX5_layLeast_130 : decode cX5_layLeast 130 = .ok (.iload 4, 2) := by decide +kernel
theorem dX5_layLeast_132 : decode cX5_layLeast 132 = .ok (.bipush 10, 2) := by decide +kernel
theorem dX5_layLeast_134 : decode cX5_layLeast 134 = .ok (.iadd, 1) := by decide +kernel
theorem dX5_layLeast_135 : decode cX5_layLeast 135 = .ok (.imul, 1) := by decide +kernel
theorem dX5_layLeast_136 : decode cX5_layLeast 136 = .ok (.iadd, 1) := by decide +kernel
theorem dX5_layLeast_137 : decode cX5_layLeast 137 = .ok (.iload 7, 2) := by decide +kernel
theorem dX5_layLeast_139 : decode cX5_layLeast 139 = .ok (.iadd, 1) := by decide +kernel
theorem dX5_layLeast_140 : decode cX5_layLeast 140 = .ok (.bipush 10, 2) := by decide +kernel
theorem dX5_layLeast_142 : decode cX5_layLeast 142 = .ok (.iadd, 1) := by decide +kernel
theorem dX5_layLeast_143 : decode cX5_layLeast 143 = .ok (.iaload, 1) := by decide +kernel
theorem dX5_layLeast_144 : decode cX5_layLeast 144 = .ok (.goto 4, 3) := by decide +kernel
theorem dX5_layLeast_147 : decode cX5_layLeast 147 = .ok (.iconst (-1), 1) := by decide +kernel
theorem dX5_layLeast_148 : decode cX5_layLeast 148 = .ok (.istore 8, 2) := by decide +kernel
theorem dX5_layLeast_150 : decode cX5_layLeast 150 = .ok (.iload_n 1, 1) := by decide +kernel
theorem dX5_layLeast_151 : decode cX5_layLeast 151 = .ok (.iload 5, 2) := by decide +kernel
theorem dX5_layLeast_153 : decode cX5_layLeast 153 = .ok (.aload_n 0, 1) := by decide +kernel
theorem dX5_layLeast_154 : decode cX5_layLeast 154 = .ok (.getfield 106, 3) := by decide +kernel
theorem dX5_layLeast_157 : decode cX5_layLeast 157 = .ok (.iload 7, 2) := by decide +kernel
theorem dX5_layLeast_159 : decode cX5_layLeast 159 = .ok (.imul, 1) := by decide +kernel
theorem dX5_layLeast_160 : decode cX5_layLeast 160 = .ok (.iadd, 1) := by decide +kernel
theorem dX5_layLeast_161 : decode cX5_layLeast 161 = .ok (.invokestatic 99, 3) := by decide +kernel
theorem dX5_layLeast_164 : decode cX5_layLeast 164 = .ok (.iload 8, 2) := by decide +kernel
theorem dX5_layLeast_166 : decode cX5_layLeast 166 = .ok (.invokestatic 112, 3) := by decide +kernel
theorem dX5_layLeast_169 : decode cX5_layLeast 169 = .ok (.istore 9, 2) := by decide +kernel
theorem dX5_layLeast_171 : decode cX5_layLeast 171 = .ok (.iload 8, 2) := by decide +kernel
theorem dX5_layLeast_173 : decode cX5_layLeast 173 = .ok (.ifCond .lt 20, 3) := by decide +kernel
theorem dX5_layLeast_176 : decode cX5_layLeast 176 = .ok (.iload 6, 2) := by decide +kernel
theorem dX5_layLeast_178 : decode cX5_layLeast 178 = .ok (.ifCond .lt 10, 3) := by decide +kernel
theorem dX5_layLeast_181 : decode cX5_layLeast 181 = .ok (.iload 9, 2) := by decide +kernel
theorem dX5_layLeast_183 : decode cX5_layLeast 183 = .ok (.iload 6, 2) := by decide +kernel
theorem dX5_layLeast_185 : decode cX5_layLeast 185 = .ok (.if_icmp .ge 8, 3) := by decide +kernel
theorem dX5_layLeast_188 : decode cX5_layLeast 188 = .ok (.iload 9, 2) := by decide +kernel
theorem dX5_layLeast_190 : decode cX5_layLeast 190 = .ok (.goto 5, 3) := by decide +kernel
theorem dX5_layLeast_193 : decode cX5_layLeast 193 = .ok (.iload 6, 2) := by decide +kernel
theorem dX5_layLeast_195 : decode cX5_layLeast 195 = .ok (.istore 6, 2) := by decide +kernel
theorem dX5_layLeast_197 : decode cX5_layLeast 197 = .ok (.iinc 7 1, 3) := by decide +kernel
theorem dX5_layLeast_200 : decode cX5_layLeast 200 = .ok (.goto (-113), 3) := by decide +kernel
theorem dX5_layLeast_203 : decode cX5_layLeast 203 = .ok (.aload_n 0, 1) := by decide +kernel
theorem dX5_layLeast_204 : decode cX5_layLeast 204 = .ok (.getfield 60, 3) := by decide +kernel
theorem dX5_layLeast_207 : decode cX5_layLeast 207 = .ok (.sipush 441, 3) := by decide +kernel
theorem dX5_layLeast_210 : decode cX5_layLeast 210 = .ok (.iload_n 2, 1) := by decide +kernel
theorem dX5_layLeast_211 : decode cX5_layLeast 211 = .ok (.imul, 1) := by decide +kernel
theorem dX5_layLeast_212 : decode cX5_layLeast 212 = .ok (.bipush 21, 2) := by decide +kernel
theorem dX5_layLeast_214 : decode cX5_layLeast 214 = .ok (.iload_n 3, 1) := by decide +kernel
theorem dX5_layLeast_215 : decode cX5_layLeast 215 = .ok (.bipush 10, 2) := by decide +kernel
theorem dX5_layLeast_217 : decode cX5_layLeast 217 = .ok (.iadd, 1) := by decide +kernel
theorem dX5_layLeast_218 : decode cX5_layLeast 218 = .ok (.imul, 1) := by decide +kernel
theorem dX5_layLeast_219 : decode cX5_layLeast 219 = .ok (.iadd, 1) := by decide +kernel
theorem dX5_layLeast_220 : decode cX5_layLeast 220 = .ok (.iload 4, 2) := by decide +kernel
theorem dX5_layLeast_222 : decode cX5_layLeast 222 = .ok (.iadd, 1) := by decide +kernel
theorem dX5_layLeast_223 : decode cX5_layLeast 223 = .ok (.bipush 10, 2) := by decide +kernel
theorem dX5_layLeast_225 : decode cX5_layLeast 225 = .ok (.iadd, 1) := by decide +kernel
theorem dX5_layLeast_226 : decode cX5_layLeast 226 = .ok (.iload 6, 2) := by decide +kernel
theorem dX5_layLeast_228 : decode cX5_layLeast 228 = .ok (.iastore, 1) := by decide +kernel
theorem dX5_layLeast_229 : decode cX5_layLeast 229 = .ok (.iinc 4 1, 3) := by decide +kernel
theorem dX5_layLeast_232 : decode cX5_layLeast 232 = .ok (.goto (-208), 3) := by decide +kernel
theorem dX5_layLeast_235 : decode cX5_layLeast 235 = .ok (.iinc 3 1, 3) := by decide +kernel
theorem dX5_layLeast_238 : decode cX5_layLeast 238 = .ok (.goto (-224), 3) := by decide +kernel
theorem dX5_layLeast_241 : decode cX5_layLeast 241 = .ok (.iinc 2 (-1), 3) := by decide +kernel
theorem dX5_layLeast_244 : decode cX5_layLeast 244 = .ok (.goto (-237), 3) := by decide +kernel
theorem dX5_layLeast_247 : decode cX5_layLeast 247 = .ok (.return_, 1) := by decide +kernel
set_option maxRecDepth 20000 in
theorem ggX5_best_X5_in : GoodIn wsX5_best wsX5_in := goodIn_r _ [10] (by decide +kernel) (by decide +kernel)
set_option maxRecDepth 20000 in
theorem gX5_best_X5_in : GoodIn wsX5_best (va_wsS RX5 75 yX5_in wsX5_in) := goodIn_app (goodIn_of _ (by decide +kernel)) ggX5_best_X5_in
set_option maxRecDepth 20000 in
theorem ggX5_best_X5_layLeast : GoodIn wsX5_best wsX5_layLeast := goodIn_r _ [14, 3, 4, 5, 6, 1, 15, 16, 9, 17, 18, 19, 20, 21, 22, 23, 24, 25, 26, 27, 28, 29, 30, 31, 32, 33, 34, 35, 36, 37, 38, 39, 40, 41, 42, 43, 44, 45, 46, 47, 48, 49, 50] (by decide +kernel) (by decide +kernel)
set_option maxRecDepth 20000 in
theorem gX5_best_X5_layLeast : GoodIn wsX5_best (wsV RX5 123 RX5 yX5_layLeast wsX5_layLeast) := goodIn_app (goodIn_of _ (by decide +kernel)) ggX5_best_X5_layLeast
set_option maxRecDepth 20000 in
theorem ggX5_best_X5_goes : GoodIn wsX5_best wsX5_goes := goodIn_r _ [21, 22, 23, 15, 16, 9, 17, 27, 28, 29, 30, 31, 32, 33, 34, 35, 36, 37, 38, 39, 40, 41, 42, 43, 44, 45, 46, 47, 48, 49, 50] (by decide +kernel) (by decide +kernel)
set_option maxRecDepth 20000 in
theorem gX5_best_X5_goes : GoodIn wsX5_best (wsV RX5 119 RX5 yX5_goes wsX5_goes) := goodIn_app (goodIn_of _ (by decide +kernel)) ggX5_best_X5_goes
set_option maxRecDepth 20000 in
theorem ggX5_best_X5_size : GoodIn wsX5_best wsX5_size := goodIn_r _ [17] (by decide +kernel) (by decide +kernel)
set_option maxRecDepth 20000 in
theorem gX5_best_X5_size : GoodIn wsX5_best (va_wsS RX5 99 yX5_size wsX5_size) := goodIn_app (goodIn_of _ (by decide +kernel)) ggX5_best_X5_size
theorem dX5_best_0 : decode cX5_best 0 = .ok (.iload_n 1, 1) := by decide +kernel
theorem dX5_best_1 : decode cX5_best 1 = .ok (.iconst 0, 1) := by decide +kernel
theorem dX5_best_2 : decode cX5_best 2 = .ok (.iconst 1, 1) := by decide +kernel
theorem dX5_best_3 : decode cX5_best 3 = .ok (.invokestatic 75, 3) := by decide +kernel
theorem dX5_best_6 : decode cX5_best 6 = .ok (.ifCond .ne 6, 3) := by decide +kernel
theorem dX5_best_9 : decode cX5_best 9 = .ok (.bipush (-2), 2) := by decide +kernel
theorem dX5_best_11 : decode cX5_best 11 = .ok (.ireturn, 1) := by decide +kernel
theorem dX5_best_12 : decode cX5_best 12 = .ok (.aload_n 0, 1) := by decide +kernel
theorem dX5_best_13 : decode cX5_best 13 = .ok (.iload_n 1, 1) := by decide +kernel
theorem dX5_best_14 : decode cX5_best 14 = .ok (.invokevirtual 123, 3) := by decide +kernel
theorem dX5_best_17 : decode cX5_best 17 = .ok (.iconst (-1), 1) := by decide +kernel
theorem dX5_best_18 : decode cX5_best 18 = .ok (.istore_n 2, 1) := by decide +kernel
theorem dX5_best_19 : decode cX5_best 19 = .ok (.iconst 0, 1) := by decide +kernel
theorem dX5_best_20 : decode cX5_best 20 = .ok (.istore_n 3, 1) := by decide +kernel
theorem dX5_best_21 : decode cX5_best 21 = .ok (.bipush (-10), 2) := by decide +kernel
theorem dX5_best_23 : decode cX5_best 23 = .ok (.istore 4, 2) := by decide +kernel
theorem dX5_best_25 : decode cX5_best 25 = .ok (.iload 4, 2) := by decide +kernel
theorem dX5_best_27 : decode cX5_best 27 = .ok (.bipush 10, 2) := by decide +kernel
theorem dX5_best_29 : decode cX5_best 29 = .ok (.if_icmp .gt 46, 3) := by decide +kernel
theorem dX5_best_32 : decode cX5_best 32 = .ok (.aload_n 0, 1) := by decide +kernel
theorem dX5_best_33 : decode cX5_best 33 = .ok (.getfield 60, 3) := by decide +kernel
theorem dX5_best_36 : decode cX5_best 36 = .ok (.sipush 210, 3) := by decide +kernel
theorem dX5_best_39 : decode cX5_best 39 = .ok (.iload 4, 2) := by decide +kernel
theorem dX5_best_41 : decode cX5_best 41 = .ok (.iadd, 1) := by decide +kernel
theorem dX5_best_42 : decode cX5_best 42 = .ok (.bipush 10, 2) := by decide +kernel
theorem dX5_best_44 : decode cX5_best 44 = .ok (.iadd, 1) := by decide +kernel
theorem dX5_best_45 : decode cX5_best 45 = .ok (.iaload, 1) := by decide +kernel
theorem dX5_best_46 : decode cX5_best 46 = .ok (.istore 5, 2) := by decide +kernel
theorem dX5_best_48 : decode cX5_best 48 = .ok (.iload 5, 2) := by decide +kernel
theorem dX5_best_50 : decode cX5_best 50 = .ok (.ifCond .lt 19, 3) := by decide +kernel
theorem dX5_best_53 : decode cX5_best 53 = .ok (.iload_n 2, 1) := by decide +kernel
theorem dX5_best_54 : decode cX5_best 54 = .ok (.ifCond .lt 9, 3) := by decide +kernel
theorem dX5_best_57 : decode cX5_best 57 = .ok (.iload 5, 2) := by decide +kernel
theorem dX5_best_59 : decode cX5_best 59 = .ok (.iload_n 2, 1) := by decide +kernel
theorem dX5_best_60 : decode cX5_best 60 = .ok (.if_icmp .ge 9, 3) := by decide +kernel
theorem dX5_best_63 : decode cX5_best 63 = .ok (.iload 5, 2) := by decide +kernel
theorem dX5_best_65 : decode cX5_best 65 = .ok (.istore_n 2, 1) := by decide +kernel
theorem dX5_best_66 : decode cX5_best 66 = .ok (.iload 4, 2) := by decide +kernel
theorem dX5_best_68 : decode cX5_best 68 = .ok (.istore_n 3, 1) := by decide +kernel
theorem dX5_best_69 : decode cX5_best 69 = .ok (.iinc 4 1, 3) := by decide +kernel
theorem dX5_best_72 : decode cX5_best 72 = .ok (.goto (-47), 3) := by decide +kernel
theorem dX5_best_75 : decode cX5_best 75 = .ok (.iconst 0, 1) := by decide +kernel
theorem dX5_best_76 : decode cX5_best 76 = .ok (.istore 4, 2) := by decide +kernel
theorem dX5_best_78 : decode cX5_best 78 = .ok (.iload_n 2, 1) := by decide +kernel
theorem dX5_best_79 : decode cX5_best 79 = .ok (.istore 5, 2) := by decide +kernel
theorem dX5_best_81 : decode cX5_best 81 = .ok (.aload_n 0, 1) := by decide +kernel
theorem dX5_best_82 : decode cX5_best 82 = .ok (.getfield 36, 3) := by decide +kernel
theorem dX5_best_85 : decode cX5_best 85 = .ok (.iconst 0, 1) := by decide +kernel
theorem dX5_best_86 : decode cX5_best 86 = .ok (.iload_n 3, 1) := by decide +kernel
theorem dX5_best_87 : decode cX5_best 87 = .ok (.iastore, 1) := by decide +kernel
theorem dX5_best_88 : decode cX5_best 88 = .ok (.iconst 0, 1) := by decide +kernel
theorem dX5_best_89 : decode cX5_best 89 = .ok (.istore 6, 2) := by decide +kernel
theorem dX5_best_91 : decode cX5_best 91 = .ok (.iload 6, 2) := by decide +kernel
theorem dX5_best_93 : decode cX5_best 93 = .ok (.iconst 1, 1) := by decide +kernel
theorem dX5_best_94 : decode cX5_best 94 = .ok (.iadd, 1) := by decide +kernel
theorem dX5_best_95 : decode cX5_best 95 = .ok (.aload_n 0, 1) := by decide +kernel
theorem dX5_best_96 : decode cX5_best 96 = .ok (.getfield 7, 3) := by decide +kernel
theorem dX5_best_99 : decode cX5_best 99 = .ok (.if_icmp .ge 181, 3) := by decide +kernel
theorem dX5_best_102 : decode cX5_best 102 = .ok (.bipush (-11), 2) := by decide +kernel
theorem dX5_best_104 : decode cX5_best 104 = .ok (.istore 7, 2) := by decide +kernel
theorem dX5_best_106 : decode cX5_best 106 = .ok (.iconst 0, 1) := by decide +kernel
theorem dX5_best_107 : decode cX5_best 107 = .ok (.istore 8, 2) := by decide +kernel
theorem dX5_best_109 : decode cX5_best 109 = .ok (.iconst 0, 1) := by decide +kernel
theorem dX5_best_110 : decode cX5_best 110 = .ok (.istore 9, 2) := by decide +kernel
theorem dX5_best_112 : decode cX5_best 112 = .ok (.iload 8, 2) := by decide +kernel
theorem dX5_best_114 : decode cX5_best 114 = .ok (.ifCond .ne 136, 3) := by decide +kernel
theorem dX5_best_117 : decode cX5_best 117 = .ok (.iinc 7 1, 3) := by decide +kernel
theorem dX5_best_120 : decode cX5_best 120 = .ok (.aload_n 0, 1) := by decide +kernel
theorem dX5_best_121 : decode cX5_best 121 = .ok (.iload 6, 2) := by decide +kernel
theorem dX5_best_123 : decode cX5_best 123 = .ok (.iload 4, 2) := by decide +kernel
theorem dX5_best_125 : decode cX5_best 125 = .ok (.iload_n 3, 1) := by decide +kernel
theorem dX5_best_126 : decode cX5_best 126 = .ok (.iload 7, 2) := by decide +kernel
theorem dX5_best_128 : decode cX5_best 128 = .ok (.invokevirtual 119, 3) := by decide +kernel
theorem dX5_best_131 : decode cX5_best 131 = .ok (.ifCond .eq 33, 3) := by decide +kernel
theorem dX5_best_134 : decode cX5_best 134 = .ok (.aload_n 0, 1) := by decide +kernel
theorem dX5_best_135 : decode cX5_best 135 = .ok (.getfield 60, 3) := by decide +kernel
theorem dX5_best_138 : decode cX5_best 138 = .ok (.sipush 441, 3) := by decide +kernel
theorem dX5_best_141 : decode cX5_best 141 = .ok (.iload 6, 2) := by decide +kernel
theorem dX5_best_143 : decode cX5_best 143 = .ok (.iconst 1, 1) := by decide +kernel
theorem dX5_best_144 : decode cX5_best 144 = .ok (.iadd, 1) := by decide +kernel
theorem dX5_best_145 : decode cX5_best 145 = .ok (.imul, 1) := by decide +kernel
theorem dX5_best_146 : decode cX5_best 146 = .ok (.bipush 21, 2) := by decide +kernel
theorem dX5_best_148 : decode cX5_best 148 = .ok (.iload_n 3, 1) := by decide +kernel
theorem dX5_best_149 : decode cX5_best 149 = .ok (.bipush 10, 2) := by decide +kernel
theorem dX5_best_151 : decode cX5_best 151 = .ok (.iadd, 1) := by decide +kernel
theorem dX5_best_152 : decode cX5_best 152 = .ok (.imul, 1) := by decide +kernel
theorem dX5_best_153 : decode cX5_best 153 = .ok (.iadd, 1) := by decide +kernel
theorem dX5_best_154 : decode cX5_best 154 = .ok (.iload 7, 2) := by decide +kernel
theorem dX5_best_156 : decode cX5_best 156 = .ok (.iadd, 1) := by decide +kernel
theorem dX5_best_157 : decode cX5_best 157 = .ok (.bipush 10, 2) := by decide +kernel
theorem dX5_best_159 : decode cX5_best 159 = .ok (.iadd, 1) := by decide +kernel
theorem dX5_best_160 : decode cX5_best 160 = .ok (.iaload, 1) := by decide +kernel
theorem dX5_best_161 : decode cX5_best 161 = .ok (.goto 4, 3) := by decide +kernel
theorem dX5_best_164 : decode cX5_best 164 = .ok (.iconst (-1), 1) := by decide +kernel
theorem dX5_best_165 : decode cX5_best 165 = .ok (.istore 10, 2) := by decide +kernel
theorem dX5_best_167 : decode cX5_best 167 = .ok (.aload_n 0, 1) := by decide +kernel
theorem dX5_best_168 : decode cX5_best 168 = .ok (.getfield 33, 3) := by decide +kernel
theorem dX5_best_171 : decode cX5_best 171 = .ok (.iload 6, 2) := by decide +kernel
theorem dX5_best_173 : decode cX5_best 173 = .ok (.iaload, 1) := by decide +kernel
theorem dX5_best_174 : decode cX5_best 174 = .ok (.aload_n 0, 1) := by decide +kernel
theorem dX5_best_175 : decode cX5_best 175 = .ok (.getfield 45, 3) := by decide +kernel
theorem dX5_best_178 : decode cX5_best 178 = .ok (.iload_n 3, 1) := by decide +kernel
theorem dX5_best_179 : decode cX5_best 179 = .ok (.imul, 1) := by decide +kernel
theorem dX5_best_180 : decode cX5_best 180 = .ok (.iadd, 1) := by decide +kernel
theorem dX5_best_181 : decode cX5_best 181 = .ok (.aload_n 0, 1) := by decide +kernel
theorem dX5_best_182 : decode cX5_best 182 = .ok (.getfield 106, 3) := by decide +kernel
theorem dX5_best_185 : decode cX5_best 185 = .ok (.iload 6, 2) := by decide +kernel
theorem dX5_best_187 : decode cX5_best 187 = .ok (.ifCond .ne 7, 3) := by decide +kernel
theorem dX5_best_190 : decode cX5_best 190 = .ok (.iconst 0, 1) := by decide +kernel
theorem dX5_best_191 : decode cX5_best 191 = .ok (.goto 5, 3) := by decide +kernel
theorem dX5_best_194 : decode cX5_best 194 = .ok (.iload 4, 2) := by decide +kernel
theorem dX5_best_196 : decode cX5_best 196 = .ok (.iload 7, 2) := by decide +kernel
theorem dX5_best_198 : decode cX5_best 198 = .ok (.iadd, 1) := by decide +kernel
theorem dX5_best_199 : decode cX5_best 199 = .ok (.imul, 1) := by decide +kernel
theorem dX5_best_200 : decode cX5_best 200 = .ok (.iadd, 1) := by decide +kernel
theorem dX5_best_201 : decode cX5_best 201 = .ok (.invokestatic 99, 3) := by decide +kernel
theorem dX5_best_204 : decode cX5_best 204 = .ok (.istore 9, 2) := by decide +kernel
theorem dX5_best_206 : decode cX5_best 206 = .ok (.iload 10, 2) := by decide +kernel
theorem dX5_best_208 : decode cX5_best 208 = .ok (.ifCond .lt 36, 3) := by decide +kernel
theorem dX5_best_211 : decode cX5_best 211 = .ok (.iload_n 1, 1) := by decide +kernel
theorem dX5_best_212 : decode cX5_best 212 = .ok (.ifCond .ne 16, 3) := by decide +kernel
theorem dX5_best_215 : decode cX5_best 215 = .ok (.iload 9, 2) := by decide +kernel
theorem dX5_best_217 : decode cX5_best 217 = .ok (.iload 10, 2) := by decide +kernel
theorem dX5_best_219 : decode cX5_best 219 = .ok (.iadd, 1) := by decide +kernel
theorem dX5_best_220 : decode cX5_best 220 = .ok (.iload 5, 2) := by decide +kernel
theorem dX5_best_222 : decode cX5_best 222 = .ok (.if_icmp .ne 22, 3) := by decide +kernel
theorem dX5_best_225 : decode cX5_best 225 = .ok (.goto 15, 3) := by decide +kernel
theorem dX5_best_228 : decode cX5_best 228 = .ok (.iload 9, 2) := by decide +kernel
theorem dX5_best_230 : decode cX5_best 230 = .ok (.iload_n 2, 1) := by decide +kernel
theorem dX5_best_231 : decode cX5_best 231 = .ok (.if_icmp .gt 13, 3) := by decide +kernel
theorem dX5_best_234 : decode cX5_best 234 = .ok (.iload 10, 2) := by decide +kernel
theorem dX5_best_236 : decode cX5_best 236 = .ok (.iload_n 2, 1) := by decide +kernel
theorem dX5_best_237 : decode cX5_best 237 = .ok (.if_icmp .gt 7, 3) := by decide +kernel
theorem dX5_best_240 : decode cX5_best 240 = .ok (.iconst 1, 1) := by decide +kernel
theorem dX5_best_241 : decode cX5_best 241 = .ok (.goto 4, 3) := by decide +kernel
theorem dX5_best_244 : decode cX5_best 244 = .ok (.iconst 0, 1) := by decide +kernel
theorem dX5_best_245 : decode cX5_best 245 = .ok (.istore 8, 2) := by decide +kernel
theorem dX5_best_247 : decode cX5_best 247 = .ok (.goto (-135), 3) := by decide +kernel
theorem dX5_best_250 : decode cX5_best 250 = .ok (.iload 5, 2) := by decide +kernel
theorem dX5_best_252 : decode cX5_best 252 = .ok (.iload 9, 2) := by decide +kernel
theorem dX5_best_254 : decode cX5_best 254 = .ok (.isub, 1) := by decide +kernel
theorem dX5_best_255 : decode cX5_best 255 = .ok (.istore 5, 2) := by decide +kernel
theorem dX5_best_257 : decode cX5_best 257 = .ok (.iload_n 3, 1) := by decide +kernel
theorem dX5_best_258 : decode cX5_best 258 = .ok (.istore 4, 2) := by decide +kernel
theorem dX5_best_260 : decode cX5_best 260 = .ok (.iload 7, 2) := by decide +kernel
theorem dX5_best_262 : decode cX5_best 262 = .ok (.istore_n 3, 1) := by decide +kernel
theorem dX5_best_263 : decode cX5_best 263 = .ok (.aload_n 0, 1) := by decide +kernel
theorem dX5_best_264 : decode cX5_best 264 = .ok (.getfield 36, 3) := by decide +kernel
theorem dX5_best_267 : decode cX5_best 267 = .ok (.iload 6, 2) := by decide +kernel
theorem dX5_best_269 : decode cX5_best 269 = .ok (.iconst 1, 1) := by decide +kernel
theorem dX5_best_270 : decode cX5_best 270 = .ok (.iadd, 1) := by decide +kernel
theorem dX5_best_271 : decode cX5_best 271 = .ok (.iload 7, 2) := by decide +kernel
theorem dX5_best_273 : decode cX5_best 273 = .ok (.iastore, 1) := by decide +kernel
theorem dX5_best_274 : decode cX5_best 274 = .ok (.iinc 6 1, 3) := by decide +kernel
theorem dX5_best_277 : decode cX5_best 277 = .ok (.goto (-186), 3) := by decide +kernel
theorem dX5_best_280 : decode cX5_best 280 = .ok (.iload_n 2, 1) := by decide +kernel
theorem dX5_best_281 : decode cX5_best 281 = .ok (.ireturn, 1) := by decide +kernel
set_option maxRecDepth 20000 in
theorem ggX5_kind_X5_in : GoodIn wsX5_kind wsX5_in := goodIn_r _ [8] (by decide +kernel) (by decide +kernel)
set_option maxRecDepth 20000 in
theorem gX5_kind_X5_in : GoodIn wsX5_kind (va_wsS RX5 75 yX5_in wsX5_in) := goodIn_app (goodIn_of _ (by decide +kernel)) ggX5_kind_X5_in
theorem dX5_kind_0 : decode cX5_kind 0 = .ok (.iload_n 1, 1) := by decide +kernel
theorem dX5_kind_1 : decode cX5_kind 1 = .ok (.iconst 1, 1) := by decide +kernel
theorem dX5_kind_2 : decode cX5_kind 2 = .ok (.bipush 24, 2) := by decide +kernel
theorem dX5_kind_4 : decode cX5_kind 4 = .ok (.invokestatic 75, 3) := by decide +kernel
theorem dX5_kind_7 : decode cX5_kind 7 = .ok (.ifCond .eq 25, 3) := by decide +kernel
theorem dX5_kind_10 : decode cX5_kind 10 = .ok (.iload_n 2, 1) := by decide +kernel
theorem dX5_kind_11 : decode cX5_kind 11 = .ok (.iconst 1, 1) := by decide +kernel
theorem dX5_kind_12 : decode cX5_kind 12 = .ok (.sipush 1000, 3) := by decide +kernel
theorem dX5_kind_15 : decode cX5_kind 15 = .ok (.invokestatic 75, 3) := by decide +kernel
theorem dX5_kind_18 : decode cX5_kind 18 = .ok (.ifCond .eq 14, 3) := by decide +kernel
theorem dX5_kind_21 : decode cX5_kind 21 = .ok (.iload_n 3, 1) := by decide +kernel
theorem dX5_kind_22 : decode cX5_kind 22 = .ok (.iconst 0, 1) := by decide +kernel
theorem dX5_kind_23 : decode cX5_kind 23 = .ok (.sipush 2000, 3) := by decide +kernel
theorem dX5_kind_26 : decode cX5_kind 26 = .ok (.invokestatic 75, 3) := by decide +kernel
theorem dX5_kind_29 : decode cX5_kind 29 = .ok (.ifCond .ne 6, 3) := by decide +kernel
theorem dX5_kind_32 : decode cX5_kind 32 = .ok (.bipush (-2), 2) := by decide +kernel
theorem dX5_kind_34 : decode cX5_kind 34 = .ok (.ireturn, 1) := by decide +kernel
theorem dX5_kind_35 : decode cX5_kind 35 = .ok (.aload_n 0, 1) := by decide +kernel
theorem dX5_kind_36 : decode cX5_kind 36 = .ok (.getfield 82, 3) := by decide +kernel
theorem dX5_kind_39 : decode cX5_kind 39 = .ok (.iconst 4, 1) := by decide +kernel
theorem dX5_kind_40 : decode cX5_kind 40 = .ok (.if_icmp .ne 6, 3) := by decide +kernel
theorem dX5_kind_43 : decode cX5_kind 43 = .ok (.bipush (-4), 2) := by decide +kernel
theorem dX5_kind_45 : decode cX5_kind 45 = .ok (.ireturn, 1) := by decide +kernel
theorem dX5_kind_46 : decode cX5_kind 46 = .ok (.aload_n 0, 1) := by decide +kernel
theorem dX5_kind_47 : decode cX5_kind 47 = .ok (.getfield 48, 3) := by decide +kernel
theorem dX5_kind_50 : decode cX5_kind 50 = .ok (.aload_n 0, 1) := by decide +kernel
theorem dX5_kind_51 : decode cX5_kind 51 = .ok (.getfield 82, 3) := by decide +kernel
theorem dX5_kind_54 : decode cX5_kind 54 = .ok (.iload_n 1, 1) := by decide +kernel
theorem dX5_kind_55 : decode cX5_kind 55 = .ok (.iastore, 1) := by decide +kernel
theorem dX5_kind_56 : decode cX5_kind 56 = .ok (.aload_n 0, 1) := by decide +kernel
theorem dX5_kind_57 : decode cX5_kind 57 = .ok (.getfield 51, 3) := by decide +kernel
theorem dX5_kind_60 : decode cX5_kind 60 = .ok (.aload_n 0, 1) := by decide +kernel
theorem dX5_kind_61 : decode cX5_kind 61 = .ok (.getfield 82, 3) := by decide +kernel
theorem dX5_kind_64 : decode cX5_kind 64 = .ok (.iload_n 2, 1) := by decide +kernel
theorem dX5_kind_65 : decode cX5_kind 65 = .ok (.iastore, 1) := by decide +kernel
theorem dX5_kind_66 : decode cX5_kind 66 = .ok (.aload_n 0, 1) := by decide +kernel
theorem dX5_kind_67 : decode cX5_kind 67 = .ok (.getfield 54, 3) := by decide +kernel
theorem dX5_kind_70 : decode cX5_kind 70 = .ok (.aload_n 0, 1) := by decide +kernel
theorem dX5_kind_71 : decode cX5_kind 71 = .ok (.getfield 82, 3) := by decide +kernel
theorem dX5_kind_74 : decode cX5_kind 74 = .ok (.iload_n 3, 1) := by decide +kernel
theorem dX5_kind_75 : decode cX5_kind 75 = .ok (.iastore, 1) := by decide +kernel
theorem dX5_kind_76 : decode cX5_kind 76 = .ok (.aload_n 0, 1) := by decide +kernel
theorem dX5_kind_77 : decode cX5_kind 77 = .ok (.dup, 1) := by decide +kernel
theorem dX5_kind_78 : decode cX5_kind 78 = .ok (.getfield 82, 3) := by decide +kernel
theorem dX5_kind_81 : decode cX5_kind 81 = .ok (.iconst 1, 1) := by decide +kernel
theorem dX5_kind_82 : decode cX5_kind 82 = .ok (.iadd, 1) := by decide +kernel
theorem dX5_kind_83 : decode cX5_kind 83 = .ok (.putfield 82, 3) := by decide +kernel
theorem dX5_kind_86 : decode cX5_kind 86 = .ok (.aload_n 0, 1) := by decide +kernel
theorem dX5_kind_87 : decode cX5_kind 87 = .ok (.getfield 82, 3) := by decide +kernel
theorem dX5_kind_90 : decode cX5_kind 90 = .ok (.iconst 1, 1) := by decide +kernel
theorem dX5_kind_91 : decode cX5_kind 91 = .ok (.isub, 1) := by decide +kernel
theorem dX5_kind_92 : decode cX5_kind 92 = .ok (.ireturn, 1) := by decide +kernel
set_option maxRecDepth 20000 in
theorem ggX5_lies_X5_error : GoodIn wsX5_lies wsX5_error := goodIn_r _ [8, 9, 2, 10, 11, 12, 16, 17, 18, 19, 20, 21, 22, 23, 24, 25, 26, 27, 28, 29, 30, 31, 32, 33, 34, 35, 36, 37, 38, 39] (by decide +kernel) (by decide +kernel)
set_option maxRecDepth 20000 in
theorem gX5_lies_X5_error : GoodIn wsX5_lies (wsV RX5 109 RX5 yX5_error wsX5_error) := goodIn_app (goodIn_of _ (by decide +kernel)) ggX5_lies_X5_error
set_option maxRecDepth 20000 in
theorem ggX5_lies_X5_size : GoodIn wsX5_lies wsX5_size := goodIn_r _ [15] (by decide +kernel) (by decide +kernel)
set_option maxRecDepth 20000 in
theorem gX5_lies_X5_size : GoodIn wsX5_lies (va_wsS RX5 99 yX5_size wsX5_size) := goodIn_app (goodIn_of _ (by decide +kernel)) ggX5_lies_X5_size
theorem dX5_lies_0 : decode cX5_lies 0 = .ok (.iload_n 2, 1) := by decide +kernel
theorem dX5_lies_1 : decode cX5_lies 1 = .ok (.aload_n 0, 1) := by decide +kernel
theorem dX5_lies_2 : decode cX5_lies 2 = .ok (.getfield 48, 3) := by decide +kernel
theorem dX5_lies_5 : decode cX5_lies 5 = .ok (.iload_n 1, 1) := by decide +kernel
theorem dX5_lies_6 : decode cX5_lies 6 = .ok (.iaload, 1) := by decide +kernel
theorem dX5_lies_7 : decode cX5_lies 7 = .ok (.iadd, 1) := by decide +kernel
theorem dX5_lies_8 : decode cX5_lies 8 = .ok (.aload_n 0, 1) := by decide +kernel
theorem dX5_lies_9 : decode cX5_lies 9 = .ok (.getfield 7, 3) := by decide +kernel
theorem dX5_lies_12 : decode cX5_lies 12 = .ok (.if_icmp .gt 7, 3) := by decide +kernel
theorem dX5_lies_15 : decode cX5_lies 15 = .ok (.iconst 1, 1) := by decide +kernel
theorem dX5_lies_16 : decode cX5_lies 16 = .ok (.goto 4, 3) := by decide +kernel
theorem dX5_lies_19 : decode cX5_lies 19 = .ok (.iconst 0, 1) := by decide +kernel
theorem dX5_lies_20 : decode cX5_lies 20 = .ok (.istore_n 3, 1) := by decide +kernel
theorem dX5_lies_21 : decode cX5_lies 21 = .ok (.iload_n 2, 1) := by decide +kernel
theorem dX5_lies_22 : decode cX5_lies 22 = .ok (.istore 4, 2) := by decide +kernel
theorem dX5_lies_24 : decode cX5_lies 24 = .ok (.iload 4, 2) := by decide +kernel
theorem dX5_lies_26 : decode cX5_lies 26 = .ok (.iload_n 2, 1) := by decide +kernel
theorem dX5_lies_27 : decode cX5_lies 27 = .ok (.aload_n 0, 1) := by decide +kernel
theorem dX5_lies_28 : decode cX5_lies 28 = .ok (.getfield 48, 3) := by decide +kernel
theorem dX5_lies_31 : decode cX5_lies 31 = .ok (.iload_n 1, 1) := by decide +kernel
theorem dX5_lies_32 : decode cX5_lies 32 = .ok (.iaload, 1) := by decide +kernel
theorem dX5_lies_33 : decode cX5_lies 33 = .ok (.iadd, 1) := by decide +kernel
theorem dX5_lies_34 : decode cX5_lies 34 = .ok (.if_icmp .ge 37, 3) := by decide +kernel
theorem dX5_lies_37 : decode cX5_lies 37 = .ok (.iload_n 3, 1) := by decide +kernel
theorem dX5_lies_38 : decode cX5_lies 38 = .ok (.ifCond .eq 33, 3) := by decide +kernel
theorem dX5_lies_41 : decode cX5_lies 41 = .ok (.aload_n 0, 1) := by decide +kernel
theorem dX5_lies_42 : decode cX5_lies 42 = .ok (.iload 4, 2) := by decide +kernel
theorem dX5_lies_44 : decode cX5_lies 44 = .ok (.invokevirtual 109, 3) := by decide +kernel
theorem dX5_lies_47 : decode cX5_lies 47 = .ok (.invokestatic 99, 3) := by decide +kernel
theorem dX5_lies_50 : decode cX5_lies 50 = .ok (.aload_n 0, 1) := by decide +kernel
theorem dX5_lies_51 : decode cX5_lies 51 = .ok (.getfield 54, 3) := by decide +kernel
theorem dX5_lies_54 : decode cX5_lies 54 = .ok (.iload_n 1, 1) := by decide +kernel
theorem dX5_lies_55 : decode cX5_lies 55 = .ok (.iaload, 1) := by decide +kernel
theorem dX5_lies_56 : decode cX5_lies 56 = .ok (.if_icmp .gt 7, 3) := by decide +kernel
theorem dX5_lies_59 : decode cX5_lies 59 = .ok (.iconst 1, 1) := by decide +kernel
theorem dX5_lies_60 : decode cX5_lies 60 = .ok (.goto 4, 3) := by decide +kernel
theorem dX5_lies_63 : decode cX5_lies 63 = .ok (.iconst 0, 1) := by decide +kernel
theorem dX5_lies_64 : decode cX5_lies 64 = .ok (.istore_n 3, 1) := by decide +kernel
theorem dX5_lies_65 : decode cX5_lies 65 = .ok (.iinc 4 1, 3) := by decide +kernel
theorem dX5_lies_68 : decode cX5_lies 68 = .ok (.goto (-44), 3) := by decide +kernel
theorem dX5_lies_71 : decode cX5_lies 71 = .ok (.iload_n 3, 1) := by decide +kernel
theorem dX5_lies_72 : decode cX5_lies 72 = .ok (.ireturn, 1) := by decide +kernel
set_option maxRecDepth 20000 in
theorem ggX5_canLie_X5_in : GoodIn wsX5_canLie wsX5_in := goodIn_r _ [5] (by decide +kernel) (by decide +kernel)
set_option maxRecDepth 20000 in
theorem gX5_canLie_X5_in : GoodIn wsX5_canLie (va_wsS RX5 75 yX5_in wsX5_in) := goodIn_app (goodIn_of _ (by decide +kernel)) ggX5_canLie_X5_in
set_option maxRecDepth 20000 in
theorem ggX5_canLie_X5_isPlace : GoodIn wsX5_canLie wsX5_isPlace := goodIn_r _ [9, 10, 2, 3, 4, 5, 28, 29, 30, 31, 32, 33, 34, 35, 36, 37, 38, 39, 40, 41, 42, 43, 44, 45, 46, 47, 48, 49, 50, 51] (by decide +kernel) (by decide +kernel)
set_option maxRecDepth 20000 in
theorem gX5_canLie_X5_isPlace : GoodIn wsX5_canLie (wsV RX5 85 RX5 yX5_isPlace wsX5_isPlace) := goodIn_app (goodIn_of _ (by decide +kernel)) ggX5_canLie_X5_isPlace
set_option maxRecDepth 20000 in
theorem ggX5_canLie_X5_lies : GoodIn wsX5_canLie wsX5_lies := goodIn_r _ [14, 15, 10, 16, 17, 18, 19, 4, 20, 21, 22, 23, 24, 25, 26, 27, 28, 29, 30, 31, 32, 33, 34, 35, 36, 37, 38, 39, 40, 41, 42, 43, 44, 45, 46, 47, 48, 49, 50, 51] (by decide +kernel) (by decide +kernel)
set_option maxRecDepth 20000 in
theorem gX5_canLie_X5_lies : GoodIn wsX5_canLie (wsV RX5 127 RX5 yX5_lies wsX5_lies) := goodIn_app (goodIn_of _ (by decide +kernel)) ggX5_canLie_X5_lies
theorem dX5_canLie_0 : decode cX5_canLie 0 = .ok (.iload_n 1, 1) := by decide +kernel
theorem dX5_canLie_1 : decode cX5_canLie 1 = .ok (.iconst 0, 1) := by decide +kernel
theorem dX5_canLie_2 : decode cX5_canLie 2 = .ok (.aload_n 0, 1) := by decide +kernel
theorem dX5_canLie_3 : decode cX5_canLie 3 = .ok (.getfield 82, 3) := by decide +kernel
theorem dX5_canLie_6 : decode cX5_canLie 6 = .ok (.iconst 1, 1) := by decide +kernel
theorem dX5_canLie_7 : decode cX5_canLie 7 = .ok (.isub, 1) := by decide +kernel
theorem dX5_canLie_8 : decode cX5_canLie 8 = .ok (.invokestatic 75, 3) := by decide +kernel
theorem dX5_canLie_11 : decode cX5_canLie 11 = .ok (.ifCond .eq 28, 3) := by decide +kernel
theorem dX5_canLie_14 : decode cX5_canLie 14 = .ok (.aload_n 0, 1) := by decide +kernel
theorem dX5_canLie_15 : decode cX5_canLie 15 = .ok (.iload_n 2, 1) := by decide +kernel
