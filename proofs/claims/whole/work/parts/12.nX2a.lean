theorem dX2_init_0 : decode cX2_init 0 = .ok (.aload_n 0, 1) := by decide +kernel
theorem dX2_init_1 : decode cX2_init 1 = .ok (.invokespecial 3, 3) := by decide +kernel
theorem dX2_init_4 : decode cX2_init 4 = .ok (.aload_n 0, 1) := by decide +kernel
theorem dX2_init_5 : decode cX2_init 5 = .ok (.bipush 24, 2) := by decide +kernel
theorem dX2_init_7 : decode cX2_init 7 = .ok (.newarray .int, 2) := by decide +kernel
theorem dX2_init_9 : decode cX2_init 9 = .ok (.putfield 9, 3) := by decide +kernel
theorem dX2_init_12 : decode cX2_init 12 = .ok (.aload_n 0, 1) := by decide +kernel
theorem dX2_init_13 : decode cX2_init 13 = .ok (.bipush 24, 2) := by decide +kernel
theorem dX2_init_15 : decode cX2_init 15 = .ok (.newarray .int, 2) := by decide +kernel
theorem dX2_init_17 : decode cX2_init 17 = .ok (.putfield 15, 3) := by decide +kernel
theorem dX2_init_20 : decode cX2_init 20 = .ok (.aload_n 0, 1) := by decide +kernel
theorem dX2_init_21 : decode cX2_init 21 = .ok (.bipush 8, 2) := by decide +kernel
theorem dX2_init_23 : decode cX2_init 23 = .ok (.putfield 18, 3) := by decide +kernel
theorem dX2_init_26 : decode cX2_init 26 = .ok (.aload_n 0, 1) := by decide +kernel
theorem dX2_init_27 : decode cX2_init 27 = .ok (.bipush 20, 2) := by decide +kernel
theorem dX2_init_29 : decode cX2_init 29 = .ok (.putfield 22, 3) := by decide +kernel
theorem dX2_init_32 : decode cX2_init 32 = .ok (.aload_n 0, 1) := by decide +kernel
theorem dX2_init_33 : decode cX2_init 33 = .ok (.bipush 40, 2) := by decide +kernel
theorem dX2_init_35 : decode cX2_init 35 = .ok (.putfield 25, 3) := by decide +kernel
theorem dX2_init_38 : decode cX2_init 38 = .ok (.aload_n 0, 1) := by decide +kernel
theorem dX2_init_39 : decode cX2_init 39 = .ok (.bipush 10, 2) := by decide +kernel
theorem dX2_init_41 : decode cX2_init 41 = .ok (.putfield 28, 3) := by decide +kernel
theorem dX2_init_44 : decode cX2_init 44 = .ok (.aload_n 0, 1) := by decide +kernel
theorem dX2_init_45 : decode cX2_init 45 = .ok (.sipush 10584, 3) := by decide +kernel
theorem dX2_init_48 : decode cX2_init 48 = .ok (.newarray .int, 2) := by decide +kernel
theorem dX2_init_50 : decode cX2_init 50 = .ok (.putfield 31, 3) := by decide +kernel
theorem dX2_init_53 : decode cX2_init 53 = .ok (.return_, 1) := by decide +kernel
set_option maxRecDepth 20000 in
theorem ggX2_renew_J7_fill_53178 : GoodIn wsX2_renew wsJ7_fill_53178 := goodIn_r _ [7] (by decide +kernel) (by decide +kernel)
set_option maxRecDepth 20000 in
theorem gX2_renew_J7_fill_53178 : GoodIn wsX2_renew (va_wsS RX2 34 yJ7_fill_53178 wsJ7_fill_53178) := goodIn_app (goodIn_of _ (by decide +kernel)) ggX2_renew_J7_fill_53178
theorem dX2_renew_0 : decode cX2_renew 0 = .ok (.aload_n 0, 1) := by decide +kernel
theorem dX2_renew_1 : decode cX2_renew 1 = .ok (.iload_n 1, 1) := by decide +kernel
theorem dX2_renew_2 : decode cX2_renew 2 = .ok (.putfield 18, 3) := by decide +kernel
theorem dX2_renew_5 : decode cX2_renew 5 = .ok (.aload_n 0, 1) := by decide +kernel
theorem dX2_renew_6 : decode cX2_renew 6 = .ok (.getfield 9, 3) := by decide +kernel
theorem dX2_renew_9 : decode cX2_renew 9 = .ok (.iconst 0, 1) := by decide +kernel
theorem dX2_renew_10 : decode cX2_renew 10 = .ok (.invokestatic 34, 3) := by decide +kernel
theorem dX2_renew_13 : decode cX2_renew 13 = .ok (.aload_n 0, 1) := by decide +kernel
theorem dX2_renew_14 : decode cX2_renew 14 = .ok (.getfield 15, 3) := by decide +kernel
theorem dX2_renew_17 : decode cX2_renew 17 = .ok (.iconst 0, 1) := by decide +kernel
theorem dX2_renew_18 : decode cX2_renew 18 = .ok (.invokestatic 34, 3) := by decide +kernel
theorem dX2_renew_21 : decode cX2_renew 21 = .ok (.return_, 1) := by decide +kernel
theorem dX2_places_0 : decode cX2_places 0 = .ok (.aload_n 0, 1) := by decide +kernel
theorem dX2_places_1 : decode cX2_places 1 = .ok (.getfield 18, 3) := by decide +kernel
theorem dX2_places_4 : decode cX2_places 4 = .ok (.ireturn, 1) := by decide +kernel
theorem dX2_nextLaw_0 : decode cX2_nextLaw 0 = .ok (.aload_n 0, 1) := by decide +kernel
theorem dX2_nextLaw_1 : decode cX2_nextLaw 1 = .ok (.getfield 22, 3) := by decide +kernel
theorem dX2_nextLaw_4 : decode cX2_nextLaw 4 = .ok (.ireturn, 1) := by decide +kernel
theorem dX2_bendLaw_0 : decode cX2_bendLaw 0 = .ok (.aload_n 0, 1) := by decide +kernel
theorem dX2_bendLaw_1 : decode cX2_bendLaw 1 = .ok (.getfield 25, 3) := by decide +kernel
theorem dX2_bendLaw_4 : decode cX2_bendLaw 4 = .ok (.ireturn, 1) := by decide +kernel
theorem dX2_mainSpread_0 : decode cX2_mainSpread 0 = .ok (.aload_n 0, 1) := by decide +kernel
theorem dX2_mainSpread_1 : decode cX2_mainSpread 1 = .ok (.getfield 28, 3) := by decide +kernel
theorem dX2_mainSpread_4 : decode cX2_mainSpread 4 = .ok (.ireturn, 1) := by decide +kernel
theorem dX2_sideSpread_0 : decode cX2_sideSpread 0 = .ok (.aload_n 0, 1) := by decide +kernel
theorem dX2_sideSpread_1 : decode cX2_sideSpread 1 = .ok (.getfield 40, 3) := by decide +kernel
theorem dX2_sideSpread_4 : decode cX2_sideSpread 4 = .ok (.ireturn, 1) := by decide +kernel
theorem dX2_baseOf_0 : decode cX2_baseOf 0 = .ok (.aload_n 0, 1) := by decide +kernel
theorem dX2_baseOf_1 : decode cX2_baseOf 1 = .ok (.getfield 9, 3) := by decide +kernel
theorem dX2_baseOf_4 : decode cX2_baseOf 4 = .ok (.iload_n 1, 1) := by decide +kernel
theorem dX2_baseOf_5 : decode cX2_baseOf 5 = .ok (.iaload, 1) := by decide +kernel
theorem dX2_baseOf_6 : decode cX2_baseOf 6 = .ok (.ireturn, 1) := by decide +kernel
theorem dX2_settingOf_0 : decode cX2_settingOf 0 = .ok (.aload_n 0, 1) := by decide +kernel
theorem dX2_settingOf_1 : decode cX2_settingOf 1 = .ok (.getfield 15, 3) := by decide +kernel
theorem dX2_settingOf_4 : decode cX2_settingOf 4 = .ok (.iload_n 1, 1) := by decide +kernel
theorem dX2_settingOf_5 : decode cX2_settingOf 5 = .ok (.iaload, 1) := by decide +kernel
theorem dX2_settingOf_6 : decode cX2_settingOf 6 = .ok (.ireturn, 1) := by decide +kernel
theorem dX2_putLaws_0 : decode cX2_putLaws 0 = .ok (.aload_n 0, 1) := by decide +kernel
theorem dX2_putLaws_1 : decode cX2_putLaws 1 = .ok (.iload_n 1, 1) := by decide +kernel
theorem dX2_putLaws_2 : decode cX2_putLaws 2 = .ok (.putfield 22, 3) := by decide +kernel
theorem dX2_putLaws_5 : decode cX2_putLaws 5 = .ok (.aload_n 0, 1) := by decide +kernel
theorem dX2_putLaws_6 : decode cX2_putLaws 6 = .ok (.iload_n 2, 1) := by decide +kernel
theorem dX2_putLaws_7 : decode cX2_putLaws 7 = .ok (.putfield 25, 3) := by decide +kernel
theorem dX2_putLaws_10 : decode cX2_putLaws 10 = .ok (.return_, 1) := by decide +kernel
theorem dX2_putSpread_0 : decode cX2_putSpread 0 = .ok (.aload_n 0, 1) := by decide +kernel
theorem dX2_putSpread_1 : decode cX2_putSpread 1 = .ok (.iload_n 1, 1) := by decide +kernel
theorem dX2_putSpread_2 : decode cX2_putSpread 2 = .ok (.putfield 28, 3) := by decide +kernel
theorem dX2_putSpread_5 : decode cX2_putSpread 5 = .ok (.aload_n 0, 1) := by decide +kernel
theorem dX2_putSpread_6 : decode cX2_putSpread 6 = .ok (.iload_n 2, 1) := by decide +kernel
theorem dX2_putSpread_7 : decode cX2_putSpread 7 = .ok (.putfield 40, 3) := by decide +kernel
theorem dX2_putSpread_10 : decode cX2_putSpread 10 = .ok (.return_, 1) := by decide +kernel
theorem dX2_putBase_0 : decode cX2_putBase 0 = .ok (.aload_n 0, 1) := by decide +kernel
theorem dX2_putBase_1 : decode cX2_putBase 1 = .ok (.getfield 9, 3) := by decide +kernel
theorem dX2_putBase_4 : decode cX2_putBase 4 = .ok (.iload_n 1, 1) := by decide +kernel
theorem dX2_putBase_5 : decode cX2_putBase 5 = .ok (.iload_n 2, 1) := by decide +kernel
theorem dX2_putBase_6 : decode cX2_putBase 6 = .ok (.iastore, 1) := by decide +kernel
theorem dX2_putBase_7 : decode cX2_putBase 7 = .ok (.return_, 1) := by decide +kernel
set_option maxRecDepth 20000 in
theorem ggX2_trySetting_X2_isLawful : GoodIn wsX2_trySetting wsX2_isLawful := goodIn_r _ [8, 9, 1, 10, 11, 12, 13, 14, 15, 16, 17, 18, 19, 20, 21] (by decide +kernel) (by decide +kernel)
set_option maxRecDepth 20000 in
theorem gX2_trySetting_X2_isLawful : GoodIn wsX2_trySetting (wsV RX2 43 RX2 yX2_isLawful wsX2_isLawful) := goodIn_app (goodIn_of _ (by decide +kernel)) ggX2_trySetting_X2_isLawful
theorem dX2_trySetting_0 : decode cX2_trySetting 0 = .ok (.aload_n 0, 1) := by decide +kernel
theorem dX2_trySetting_1 : decode cX2_trySetting 1 = .ok (.getfield 15, 3) := by decide +kernel
theorem dX2_trySetting_4 : decode cX2_trySetting 4 = .ok (.iload_n 1, 1) := by decide +kernel
theorem dX2_trySetting_5 : decode cX2_trySetting 5 = .ok (.iaload, 1) := by decide +kernel
theorem dX2_trySetting_6 : decode cX2_trySetting 6 = .ok (.istore_n 3, 1) := by decide +kernel
theorem dX2_trySetting_7 : decode cX2_trySetting 7 = .ok (.aload_n 0, 1) := by decide +kernel
theorem dX2_trySetting_8 : decode cX2_trySetting 8 = .ok (.getfield 15, 3) := by decide +kernel
theorem dX2_trySetting_11 : decode cX2_trySetting 11 = .ok (.iload_n 1, 1) := by decide +kernel
theorem dX2_trySetting_12 : decode cX2_trySetting 12 = .ok (.iload_n 2, 1) := by decide +kernel
theorem dX2_trySetting_13 : decode cX2_trySetting 13 = .ok (.iastore, 1) := by decide +kernel
theorem dX2_trySetting_14 : decode cX2_trySetting 14 = .ok (.aload_n 0, 1) := by decide +kernel
theorem dX2_trySetting_15 : decode cX2_trySetting 15 = .ok (.aload_n 0, 1) := by decide +kernel
theorem dX2_trySetting_16 : decode cX2_trySetting 16 = .ok (.getfield 22, 3) := by decide +kernel
theorem dX2_trySetting_19 : decode cX2_trySetting 19 = .ok (.aload_n 0, 1) := by decide +kernel
theorem dX2_trySetting_20 : decode cX2_trySetting 20 = .ok (.getfield 25, 3) := by decide +kernel
theorem dX2_trySetting_23 : decode cX2_trySetting 23 = .ok (.invokevirtual 43, 3) := by decide +kernel
theorem dX2_trySetting_26 : decode cX2_trySetting 26 = .ok (.ifCond .eq 5, 3) := by decide +kernel
theorem dX2_trySetting_29 : decode cX2_trySetting 29 = .ok (.iconst 1, 1) := by decide +kernel
theorem dX2_trySetting_30 : decode cX2_trySetting 30 = .ok (.ireturn, 1) := by decide +kernel
theorem dX2_trySetting_31 : decode cX2_trySetting 31 = .ok (.aload_n 0, 1) := by decide +kernel
theorem dX2_trySetting_32 : decode cX2_trySetting 32 = .ok (.getfield 15, 3) := by decide +kernel
theorem dX2_trySetting_35 : decode cX2_trySetting 35 = .ok (.iload_n 1, 1) := by decide +kernel
theorem dX2_trySetting_36 : decode cX2_trySetting 36 = .ok (.iload_n 3, 1) := by decide +kernel
theorem dX2_trySetting_37 : decode cX2_trySetting 37 = .ok (.iastore, 1) := by decide +kernel
theorem dX2_trySetting_38 : decode cX2_trySetting 38 = .ok (.iconst 0, 1) := by decide +kernel
theorem dX2_trySetting_39 : decode cX2_trySetting 39 = .ok (.ireturn, 1) := by decide +kernel
theorem dX2_isLawful_0 : decode cX2_isLawful 0 = .ok (.iconst 1, 1) := by decide +kernel
theorem dX2_isLawful_1 : decode cX2_isLawful 1 = .ok (.istore_n 3, 1) := by decide +kernel
theorem dX2_isLawful_2 : decode cX2_isLawful 2 = .ok (.iload_n 3, 1) := by decide +kernel
theorem dX2_isLawful_3 : decode cX2_isLawful 3 = .ok (.aload_n 0, 1) := by decide +kernel
theorem dX2_isLawful_4 : decode cX2_isLawful 4 = .ok (.getfield 18, 3) := by decide +kernel
theorem dX2_isLawful_7 : decode cX2_isLawful 7 = .ok (.if_icmp .ge 73, 3) := by decide +kernel
theorem dX2_isLawful_10 : decode cX2_isLawful 10 = .ok (.aload_n 0, 1) := by decide +kernel
theorem dX2_isLawful_11 : decode cX2_isLawful 11 = .ok (.getfield 15, 3) := by decide +kernel
theorem dX2_isLawful_14 : decode cX2_isLawful 14 = .ok (.iload_n 3, 1) := by decide +kernel
theorem dX2_isLawful_15 : decode cX2_isLawful 15 = .ok (.iaload, 1) := by decide +kernel
theorem dX2_isLawful_16 : decode cX2_isLawful 16 = .ok (.aload_n 0, 1) := by decide +kernel
theorem dX2_isLawful_17 : decode cX2_isLawful 17 = .ok (.getfield 15, 3) := by decide +kernel
theorem dX2_isLawful_20 : decode cX2_isLawful 20 = .ok (.iload_n 3, 1) := by decide +kernel
theorem dX2_isLawful_21 : decode cX2_isLawful 21 = .ok (.iconst 1, 1) := by decide +kernel
theorem dX2_isLawful_22 : decode cX2_isLawful 22 = .ok (.isub, 1) := by decide +kernel
theorem dX2_isLawful_23 : decode cX2_isLawful 23 = .ok (.iaload, 1) := by decide +kernel
theorem dX2_isLawful_24 : decode cX2_isLawful 24 = .ok (.isub, 1) := by decide +kernel
theorem dX2_isLawful_25 : decode cX2_isLawful 25 = .ok (.invokestatic 47, 3) := by decide +kernel
theorem dX2_isLawful_28 : decode cX2_isLawful 28 = .ok (.iload_n 1, 1) := by decide +kernel
theorem dX2_isLawful_29 : decode cX2_isLawful 29 = .ok (.if_icmp .le 5, 3) := by decide +kernel
theorem dX2_isLawful_32 : decode cX2_isLawful 32 = .ok (.iconst 0, 1) := by decide +kernel
theorem dX2_isLawful_33 : decode cX2_isLawful 33 = .ok (.ireturn, 1) := by decide +kernel
theorem dX2_isLawful_34 : decode cX2_isLawful 34 = .ok (.iload_n 3, 1) := by decide +kernel
theorem dX2_isLawful_35 : decode cX2_isLawful 35 = .ok (.iconst 2, 1) := by decide +kernel
theorem dX2_isLawful_36 : decode cX2_isLawful 36 = .ok (.if_icmp .lt 38, 3) := by decide +kernel
theorem dX2_isLawful_39 : decode cX2_isLawful 39 = .ok (.iconst 2, 1) := by decide +kernel
theorem dX2_isLawful_40 : decode cX2_isLawful 40 = .ok (.aload_n 0, 1) := by decide +kernel
theorem dX2_isLawful_41 : decode cX2_isLawful 41 = .ok (.getfield 15, 3) := by decide +kernel
theorem dX2_isLawful_44 : decode cX2_isLawful 44 = .ok (.iload_n 3, 1) := by decide +kernel
theorem dX2_isLawful_45 : decode cX2_isLawful 45 = .ok (.iconst 1, 1) := by decide +kernel
theorem dX2_isLawful_46 : decode cX2_isLawful 46 = .ok (.isub, 1) := by decide +kernel
theorem dX2_isLawful_47 : decode cX2_isLawful 47 = .ok (.iaload, 1) := by decide +kernel
theorem dX2_isLawful_48 : decode cX2_isLawful 48 = .ok (.imul, 1) := by decide +kernel
theorem dX2_isLawful_49 : decode cX2_isLawful 49 = .ok (.aload_n 0, 1) := by decide +kernel
theorem dX2_isLawful_50 : decode cX2_isLawful 50 = .ok (.getfield 15, 3) := by decide +kernel
theorem dX2_isLawful_53 : decode cX2_isLawful 53 = .ok (.iload_n 3, 1) := by decide +kernel
theorem dX2_isLawful_54 : decode cX2_isLawful 54 = .ok (.iconst 2, 1) := by decide +kernel
theorem dX2_isLawful_55 : decode cX2_isLawful 55 = .ok (.isub, 1) := by decide +kernel
theorem dX2_isLawful_56 : decode cX2_isLawful 56 = .ok (.iaload, 1) := by decide +kernel
theorem dX2_isLawful_57 : decode cX2_isLawful 57 = .ok (.isub, 1) := by decide +kernel
theorem dX2_isLawful_58 : decode cX2_isLawful 58 = .ok (.aload_n 0, 1) := by decide +kernel
theorem dX2_isLawful_59 : decode cX2_isLawful 59 = .ok (.getfield 15, 3) := by decide +kernel
theorem dX2_isLawful_62 : decode cX2_isLawful 62 = .ok (.iload_n 3, 1) := by decide +kernel
theorem dX2_isLawful_63 : decode cX2_isLawful 63 = .ok (.iaload, 1) := by decide +kernel
theorem dX2_isLawful_64 : decode cX2_isLawful 64 = .ok (.isub, 1) := by decide +kernel
theorem dX2_isLawful_65 : decode cX2_isLawful 65 = .ok (.invokestatic 47, 3) := by decide +kernel
theorem dX2_isLawful_68 : decode cX2_isLawful 68 = .ok (.iload_n 2, 1) := by decide +kernel
theorem dX2_isLawful_69 : decode cX2_isLawful 69 = .ok (.if_icmp .le 5, 3) := by decide +kernel
theorem dX2_isLawful_72 : decode cX2_isLawful 72 = .ok (.iconst 0, 1) := by decide +kernel
theorem dX2_isLawful_73 : decode cX2_isLawful 73 = .ok (.ireturn, 1) := by decide +kernel
theorem dX2_isLawful_74 : decode cX2_isLawful 74 = .ok (.iinc 3 1, 3) := by decide +kernel
theorem dX2_isLawful_77 : decode cX2_isLawful 77 = .ok (.goto (-75), 3) := by decide +kernel
theorem dX2_isLawful_80 : decode cX2_isLawful 80 = .ok (.iconst 1, 1) := by decide +kernel
theorem dX2_isLawful_81 : decode cX2_isLawful 81 = .ok (.ireturn, 1) := by decide +kernel
theorem dX2_errorOf_0 : decode cX2_errorOf 0 = .ok (.aload_n 0, 1) := by decide +kernel
theorem dX2_errorOf_1 : decode cX2_errorOf 1 = .ok (.getfield 9, 3) := by decide +kernel
theorem dX2_errorOf_4 : decode cX2_errorOf 4 = .ok (.iload_n 1, 1) := by decide +kernel
theorem dX2_errorOf_5 : decode cX2_errorOf 5 = .ok (.iaload, 1) := by decide +kernel
theorem dX2_errorOf_6 : decode cX2_errorOf 6 = .ok (.aload_n 0, 1) := by decide +kernel
theorem dX2_errorOf_7 : decode cX2_errorOf 7 = .ok (.getfield 28, 3) := by decide +kernel
theorem dX2_errorOf_10 : decode cX2_errorOf 10 = .ok (.aload_n 0, 1) := by decide +kernel
theorem dX2_errorOf_11 : decode cX2_errorOf 11 = .ok (.getfield 15, 3) := by decide +kernel
theorem dX2_errorOf_14 : decode cX2_errorOf 14 = .ok (.iload_n 1, 1) := by decide +kernel
theorem dX2_errorOf_15 : decode cX2_errorOf 15 = .ok (.iaload, 1) := by decide +kernel
theorem dX2_errorOf_16 : decode cX2_errorOf 16 = .ok (.imul, 1) := by decide +kernel
theorem dX2_errorOf_17 : decode cX2_errorOf 17 = .ok (.iadd, 1) := by decide +kernel
theorem dX2_errorOf_18 : decode cX2_errorOf 18 = .ok (.istore_n 2, 1) := by decide +kernel
theorem dX2_errorOf_19 : decode cX2_errorOf 19 = .ok (.iload_n 1, 1) := by decide +kernel
theorem dX2_errorOf_20 : decode cX2_errorOf 20 = .ok (.ifCond .le 19, 3) := by decide +kernel
theorem dX2_errorOf_23 : decode cX2_errorOf 23 = .ok (.iload_n 2, 1) := by decide +kernel
theorem dX2_errorOf_24 : decode cX2_errorOf 24 = .ok (.aload_n 0, 1) := by decide +kernel
theorem dX2_errorOf_25 : decode cX2_errorOf 25 = .ok (.getfield 40, 3) := by decide +kernel
theorem dX2_errorOf_28 : decode cX2_errorOf 28 = .ok (.aload_n 0, 1) := by decide +kernel
theorem dX2_errorOf_29 : decode cX2_errorOf 29 = .ok (.getfield 15, 3) := by decide +kernel
theorem dX2_errorOf_32 : decode cX2_errorOf 32 = .ok (.iload_n 1, 1) := by decide +kernel
theorem dX2_errorOf_33 : decode cX2_errorOf 33 = .ok (.iconst 1, 1) := by decide +kernel
theorem dX2_errorOf_34 : decode cX2_errorOf 34 = .ok (.isub, 1) := by decide +kernel
theorem dX2_errorOf_35 : decode cX2_errorOf 35 = .ok (.iaload, 1) := by decide +kernel
theorem dX2_errorOf_36 : decode cX2_errorOf 36 = .ok (.imul, 1) := by decide +kernel
theorem dX2_errorOf_37 : decode cX2_errorOf 37 = .ok (.iadd, 1) := by decide +kernel
theorem dX2_errorOf_38 : decode cX2_errorOf 38 = .ok (.istore_n 2, 1) := by decide +kernel
theorem dX2_errorOf_39 : decode cX2_errorOf 39 = .ok (.iload_n 1, 1) := by decide +kernel
theorem dX2_errorOf_40 : decode cX2_errorOf 40 = .ok (.aload_n 0, 1) := by decide +kernel
theorem dX2_errorOf_41 : decode cX2_errorOf 41 = .ok (.getfield 18, 3) := by decide +kernel
theorem dX2_errorOf_44 : decode cX2_errorOf 44 = .ok (.iconst 1, 1) := by decide +kernel
theorem dX2_errorOf_45 : decode cX2_errorOf 45 = .ok (.isub, 1) := by decide +kernel
theorem dX2_errorOf_46 : decode cX2_errorOf 46 = .ok (.if_icmp .ge 19, 3) := by decide +kernel
theorem dX2_errorOf_49 : decode cX2_errorOf 49 = .ok (.iload_n 2, 1) := by decide +kernel
theorem dX2_errorOf_50 : decode cX2_errorOf 50 = .ok (.aload_n 0, 1) := by decide +kernel
theorem dX2_errorOf_51 : decode cX2_errorOf 51 = .ok (.getfield 40, 3) := by decide +kernel
theorem dX2_errorOf_54 : decode cX2_errorOf 54 = .ok (.aload_n 0, 1) := by decide +kernel
theorem dX2_errorOf_55 : decode cX2_errorOf 55 = .ok (.getfield 15, 3) := by decide +kernel
theorem dX2_errorOf_58 : decode cX2_errorOf 58 = .ok (.iload_n 1, 1) := by decide +kernel
theorem dX2_errorOf_59 : decode cX2_errorOf 59 = .ok (.iconst 1, 1) := by decide +kernel
theorem dX2_errorOf_60 : decode cX2_errorOf 60 = .ok (.iadd, 1) := by decide +kernel
theorem dX2_errorOf_61 : decode cX2_errorOf 61 = .ok (.iaload, 1) := by decide +kernel
theorem dX2_errorOf_62 : decode cX2_errorOf 62 = .ok (.imul, 1) := by decide +kernel
theorem dX2_errorOf_63 : decode cX2_errorOf 63 = .ok (.iadd, 1) := by decide +kernel
theorem dX2_errorOf_64 : decode cX2_errorOf 64 = .ok (.istore_n 2, 1) := by decide +kernel
theorem dX2_errorOf_65 : decode cX2_errorOf 65 = .ok (.iload_n 2, 1) := by decide +kernel
theorem dX2_errorOf_66 : decode cX2_errorOf 66 = .ok (.ireturn, 1) := by decide +kernel
set_option maxRecDepth 20000 in
theorem ggX2_sizeOf_X2_errorOf : GoodIn wsX2_sizeOf wsX2_errorOf := goodIn_r _ [9, 10, 11, 12, 13, 14, 15, 16, 17, 18, 19, 20, 21, 22] (by decide +kernel) (by decide +kernel)
set_option maxRecDepth 20000 in
theorem gX2_sizeOf_X2_errorOf : GoodIn wsX2_sizeOf (wsV RX2 53 RX2 yX2_errorOf wsX2_errorOf) := goodIn_app (goodIn_of _ (by decide +kernel)) ggX2_sizeOf_X2_errorOf
theorem dX2_sizeOf_0 : decode cX2_sizeOf 0 = .ok (.aload_n 0, 1) := by decide +kernel
theorem dX2_sizeOf_1 : decode cX2_sizeOf 1 = .ok (.iload_n 1, 1) := by decide +kernel
theorem dX2_sizeOf_2 : decode cX2_sizeOf 2 = .ok (.invokevirtual 53, 3) := by decide +kernel
theorem dX2_sizeOf_5 : decode cX2_sizeOf 5 = .ok (.invokestatic 47, 3) := by decide +kernel
theorem dX2_sizeOf_8 : decode cX2_sizeOf 8 = .ok (.ireturn, 1) := by decide +kernel
set_option maxRecDepth 20000 in
theorem ggX2_unevenness_X2_sizeOf : GoodIn wsX2_unevenness wsX2_sizeOf := goodIn_r _ [6, 7, 8, 9, 10, 11, 12, 13, 5, 14, 15, 16, 17, 18, 1, 25, 26, 27, 28, 29, 30, 31, 32] (by decide +kernel) (by decide +kernel)
set_option maxRecDepth 20000 in
theorem gX2_unevenness_X2_sizeOf : GoodIn wsX2_unevenness (wsV RX2 56 RX2 yX2_sizeOf wsX2_sizeOf) := goodIn_app (goodIn_of _ (by decide +kernel)) ggX2_unevenness_X2_sizeOf
set_option maxRecDepth 20000 in
theorem ggX2_unevenness_X2_together : GoodIn wsX2_unevenness wsX2_together := goodIn_r _ [21, 22, 23, 9, 24] (by decide +kernel) (by decide +kernel)
set_option maxRecDepth 20000 in
theorem gX2_unevenness_X2_together : GoodIn wsX2_unevenness (va_wsS RX2 59 yX2_together wsX2_together) := goodIn_app (goodIn_of _ (by decide +kernel)) ggX2_unevenness_X2_together
theorem dX2_unevenness_0 : decode cX2_unevenness 0 = .ok (.iconst 0, 1) := by decide +kernel
theorem dX2_unevenness_1 : decode cX2_unevenness 1 = .ok (.istore_n 2, 1) := by decide +kernel
theorem dX2_unevenness_2 : decode cX2_unevenness 2 = .ok (.iconst 0, 1) := by decide +kernel
theorem dX2_unevenness_3 : decode cX2_unevenness 3 = .ok (.istore_n 3, 1) := by decide +kernel
theorem dX2_unevenness_4 : decode cX2_unevenness 4 = .ok (.iload_n 3, 1) := by decide +kernel
theorem dX2_unevenness_5 : decode cX2_unevenness 5 = .ok (.aload_n 0, 1) := by decide +kernel
theorem dX2_unevenness_6 : decode cX2_unevenness 6 = .ok (.getfield 18, 3) := by decide +kernel
theorem dX2_unevenness_9 : decode cX2_unevenness 9 = .ok (.if_icmp .ge 20, 3) := by decide +kernel
theorem dX2_unevenness_12 : decode cX2_unevenness 12 = .ok (.iload_n 2, 1) := by decide +kernel
theorem dX2_unevenness_13 : decode cX2_unevenness 13 = .ok (.aload_n 0, 1) := by decide +kernel
theorem dX2_unevenness_14 : decode cX2_unevenness 14 = .ok (.iload_n 3, 1) := by decide +kernel
theorem dX2_unevenness_15 : decode cX2_unevenness 15 = .ok (.invokevirtual 56, 3) := by decide +kernel
theorem dX2_unevenness_18 : decode cX2_unevenness 18 = .ok (.iload_n 1, 1) := by decide +kernel
theorem dX2_unevenness_19 : decode cX2_unevenness 19 = .ok (.invokestatic 59, 3) := by decide +kernel
theorem dX2_unevenness_22 : decode cX2_unevenness 22 = .ok (.istore_n 2, 1) := by decide +kernel
theorem dX2_unevenness_23 : decode cX2_unevenness 23 = .ok (.iinc 3 1, 3) := by decide +kernel
theorem dX2_unevenness_26 : decode cX2_unevenness 26 = .ok (.goto (-22), 3) := by decide +kernel
theorem dX2_unevenness_29 : decode cX2_unevenness 29 = .ok (.iload_n 2, 1) := by decide +kernel
theorem dX2_unevenness_30 : decode cX2_unevenness 30 = .ok (.ireturn, 1) := by decide +kernel
theorem dX2_together_0 : decode cX2_together 0 = .ok (.iload_n 2, 1) := by decide +kernel
theorem dX2_together_1 : decode cX2_together 1 = .ok (.ifCond .eq 9, 3) := by decide +kernel
theorem dX2_together_4 : decode cX2_together 4 = .ok (.iload_n 0, 1) := by decide +kernel
theorem dX2_together_5 : decode cX2_together 5 = .ok (.iload_n 1, 1) := by decide +kernel
theorem dX2_together_6 : decode cX2_together 6 = .ok (.iadd, 1) := by decide +kernel
theorem dX2_together_7 : decode cX2_together 7 = .ok (.goto 8, 3) := by decide +kernel
theorem dX2_together_10 : decode cX2_together 10 = .ok (.iload_n 0, 1) := by decide +kernel
theorem dX2_together_11 : decode cX2_together 11 = .ok (.iload_n 1, 1) := by decide +kernel
theorem dX2_together_12 : decode cX2_together 12 = .ok (.invokestatic 63, 3) := by decide +kernel
theorem dX2_together_15 : decode cX2_together 15 = .ok (.ireturn, 1) := by decide +kernel
set_option maxRecDepth 20000 in
theorem ggX2_settle_X2_weighLast : GoodIn wsX2_settle wsX2_weighLast := goodIn_r _ [7, 1, 8, 9, 10, 11, 12, 13, 14, 15, 16, 17, 6, 18, 63, 64, 65, 66, 67, 68, 69, 70] (by decide +kernel) (by decide +kernel)
set_option maxRecDepth 20000 in
theorem gX2_settle_X2_weighLast : GoodIn wsX2_settle (wsV RX2 67 RX2 yX2_weighLast wsX2_weighLast) := goodIn_app (goodIn_of _ (by decide +kernel)) ggX2_settle_X2_weighLast
set_option maxRecDepth 20000 in
theorem ggX2_settle_X2_weigh : GoodIn wsX2_settle wsX2_weigh := goodIn_r _ [22, 23, 24, 25, 14, 26, 27, 28, 29, 8, 16, 17, 6, 18, 30, 31, 32, 33, 34, 9, 10, 11, 35, 36, 37, 38, 39, 40, 41, 42, 43, 63, 64, 65, 66, 67, 68, 69, 70] (by decide +kernel) (by decide +kernel)
set_option maxRecDepth 20000 in
theorem gX2_settle_X2_weigh : GoodIn wsX2_settle (wsV RX2 70 RX2 yX2_weigh wsX2_weigh) := goodIn_app (goodIn_of _ (by decide +kernel)) ggX2_settle_X2_weigh
set_option maxRecDepth 20000 in
theorem ggX2_settle_X2_settleFirstTwo : GoodIn wsX2_settle wsX2_settleFirstTwo := goodIn_r _ [47, 34, 23, 27, 28, 14, 29, 24, 25, 26, 9, 10, 11, 12, 13, 15, 8, 2, 16, 17, 6, 18, 48, 49, 50, 63, 64, 65, 66, 67, 68, 69, 70] (by decide +kernel) (by decide +kernel)
set_option maxRecDepth 20000 in
theorem gX2_settle_X2_settleFirstTwo : GoodIn wsX2_settle (wsV RX2 74 RX2 yX2_settleFirstTwo wsX2_settleFirstTwo) := goodIn_app (goodIn_of _ (by decide +kernel)) ggX2_settle_X2_settleFirstTwo
set_option maxRecDepth 20000 in
theorem ggX2_settle_X2_sizeOf : GoodIn wsX2_settle wsX2_sizeOf := goodIn_r _ [54, 12, 13, 14, 15, 55, 56, 57, 6, 58, 9, 10, 2, 11, 1, 63, 64, 65, 66, 67, 68, 69, 70] (by decide +kernel) (by decide +kernel)
set_option maxRecDepth 20000 in
theorem gX2_settle_X2_sizeOf : GoodIn wsX2_settle (wsV RX2 56 RX2 yX2_sizeOf wsX2_sizeOf) := goodIn_app (goodIn_of _ (by decide +kernel)) ggX2_settle_X2_sizeOf
set_option maxRecDepth 20000 in
theorem ggX2_settle_X2_lesserAfter : GoodIn wsX2_settle wsX2_lesserAfter := goodIn_r _ [62, 2, 9, 10, 11, 12, 13, 14, 15, 8, 16, 17, 6, 18, 35, 36, 37, 38, 23, 39, 27, 28, 29, 40, 41, 42, 43, 24, 25, 26, 48, 49, 50, 63, 64, 65, 66, 67, 68, 69, 70] (by decide +kernel) (by decide +kernel)
set_option maxRecDepth 20000 in
theorem gX2_settle_X2_lesserAfter : GoodIn wsX2_settle (wsV RX2 78 RX2 yX2_lesserAfter wsX2_lesserAfter) := goodIn_app (goodIn_of _ (by decide +kernel)) ggX2_settle_X2_lesserAfter
set_option maxRecDepth 20000 in
theorem ggX2_settle_X2_together : GoodIn wsX2_settle wsX2_together := goodIn_r _ [50, 24, 25, 14, 26] (by decide +kernel) (by decide +kernel)
set_option maxRecDepth 20000 in
theorem gX2_settle_X2_together : GoodIn wsX2_settle (va_wsS RX2 59 yX2_together wsX2_together) := goodIn_app (goodIn_of _ (by decide +kernel)) ggX2_settle_X2_together
theorem dX2_settle_0 : decode cX2_settle 0 = .ok (.aload_n 0, 1) := by decide +kernel
theorem dX2_settle_1 : decode cX2_settle 1 = .ok (.invokevirtual 67, 3) := by decide +kernel
theorem dX2_settle_4 : decode cX2_settle 4 = .ok (.aload_n 0, 1) := by decide +kernel
theorem dX2_settle_5 : decode cX2_settle 5 = .ok (.getfield 18, 3) := by decide +kernel
theorem dX2_settle_8 : decode cX2_settle 8 = .ok (.iconst 2, 1) := by decide +kernel
theorem dX2_settle_9 : decode cX2_settle 9 = .ok (.isub, 1) := by decide +kernel
theorem dX2_settle_10 : decode cX2_settle 10 = .ok (.istore_n 2, 1) := by decide +kernel
theorem dX2_settle_11 : decode cX2_settle 11 = .ok (.iload_n 2, 1) := by decide +kernel
theorem dX2_settle_12 : decode cX2_settle 12 = .ok (.iconst 1, 1) := by decide +kernel
theorem dX2_settle_13 : decode cX2_settle 13 = .ok (.if_icmp .lt 15, 3) := by decide +kernel
theorem dX2_settle_16 : decode cX2_settle 16 = .ok (.aload_n 0, 1) := by decide +kernel
theorem dX2_settle_17 : decode cX2_settle 17 = .ok (.iload_n 2, 1) := by decide +kernel
theorem dX2_settle_18 : decode cX2_settle 18 = .ok (.iload_n 1, 1) := by decide +kernel
theorem dX2_settle_19 : decode cX2_settle 19 = .ok (.invokevirtual 70, 3) := by decide +kernel
theorem dX2_settle_22 : decode cX2_settle 22 = .ok (.iinc 2 (-1), 3) := by decide +kernel
theorem dX2_settle_25 : decode cX2_settle 25 = .ok (.goto (-14), 3) := by decide +kernel
theorem dX2_settle_28 : decode cX2_settle 28 = .ok (.aload_n 0, 1) := by decide +kernel
theorem dX2_settle_29 : decode cX2_settle 29 = .ok (.iload_n 1, 1) := by decide +kernel
theorem dX2_settle_30 : decode cX2_settle 30 = .ok (.invokevirtual 74, 3) := by decide +kernel
theorem dX2_settle_33 : decode cX2_settle 33 = .ok (.istore_n 2, 1) := by decide +kernel
theorem dX2_settle_34 : decode cX2_settle 34 = .ok (.aload_n 0, 1) := by decide +kernel
theorem dX2_settle_35 : decode cX2_settle 35 = .ok (.iconst 0, 1) := by decide +kernel
theorem dX2_settle_36 : decode cX2_settle 36 = .ok (.invokevirtual 56, 3) := by decide +kernel
theorem dX2_settle_39 : decode cX2_settle 39 = .ok (.istore_n 3, 1) := by decide +kernel
theorem dX2_settle_40 : decode cX2_settle 40 = .ok (.iconst 1, 1) := by decide +kernel
theorem dX2_settle_41 : decode cX2_settle 41 = .ok (.istore 4, 2) := by decide +kernel
theorem dX2_settle_43 : decode cX2_settle 43 = .ok (.iload 4, 2) := by decide +kernel
theorem dX2_settle_45 : decode cX2_settle 45 = .ok (.aload_n 0, 1) := by decide +kernel
theorem dX2_settle_46 : decode cX2_settle 46 = .ok (.getfield 18, 3) := by decide +kernel
theorem dX2_settle_49 : decode cX2_settle 49 = .ok (.iconst 1, 1) := by decide +kernel
theorem dX2_settle_50 : decode cX2_settle 50 = .ok (.isub, 1) := by decide +kernel
theorem dX2_settle_51 : decode cX2_settle 51 = .ok (.if_icmp .ge 39, 3) := by decide +kernel
theorem dX2_settle_54 : decode cX2_settle 54 = .ok (.aload_n 0, 1) := by decide +kernel
theorem dX2_settle_55 : decode cX2_settle 55 = .ok (.getfield 15, 3) := by decide +kernel
theorem dX2_settle_58 : decode cX2_settle 58 = .ok (.iload 4, 2) := by decide +kernel
theorem dX2_settle_60 : decode cX2_settle 60 = .ok (.iconst 1, 1) := by decide +kernel
theorem dX2_settle_61 : decode cX2_settle 61 = .ok (.iadd, 1) := by decide +kernel
theorem dX2_settle_62 : decode cX2_settle 62 = .ok (.aload_n 0, 1) := by decide +kernel
theorem dX2_settle_63 : decode cX2_settle 63 = .ok (.iload 4, 2) := by decide +kernel
theorem dX2_settle_65 : decode cX2_settle 65 = .ok (.iload_n 3, 1) := by decide +kernel
theorem dX2_settle_66 : decode cX2_settle 66 = .ok (.iload_n 2, 1) := by decide +kernel
theorem dX2_settle_67 : decode cX2_settle 67 = .ok (.iload_n 1, 1) := by decide +kernel
theorem dX2_settle_68 : decode cX2_settle 68 = .ok (.invokevirtual 78, 3) := by decide +kernel
theorem dX2_settle_71 : decode cX2_settle 71 = .ok (.iastore, 1) := by decide +kernel
theorem dX2_settle_72 : decode cX2_settle 72 = .ok (.iload_n 3, 1) := by decide +kernel
theorem dX2_settle_73 : decode cX2_settle 73 = .ok (.aload_n 0, 1) := by decide +kernel
theorem dX2_settle_74 : decode cX2_settle 74 = .ok (.iload 4, 2) := by decide +kernel
theorem dX2_settle_76 : decode cX2_settle 76 = .ok (.invokevirtual 56, 3) := by decide +kernel
theorem dX2_settle_79 : decode cX2_settle 79 = .ok (.iload_n 1, 1) := by decide +kernel
theorem dX2_settle_80 : decode cX2_settle 80 = .ok (.invokestatic 59, 3) := by decide +kernel
theorem dX2_settle_83 : decode cX2_settle 83 = .ok (.istore_n 3, 1) := by decide +kernel
theorem dX2_settle_84 : decode cX2_settle 84 = .ok (.iinc 4 1, 3) := by decide +kernel
theorem dX2_settle_87 : decode cX2_settle 87 = .ok (.goto (-44), 3) := by decide +kernel
theorem dX2_settle_90 : decode cX2_settle 90 = .ok (.iload_n 2, 1) := by decide +kernel
theorem dX2_settle_91 : decode cX2_settle 91 = .ok (.ireturn, 1) := by decide +kernel
set_option maxRecDepth 20000 in
theorem ggX2_weighLast_X2_spot : GoodIn wsX2_weighLast wsX2_spot := goodIn_r _ [13] (by decide +kernel) (by decide +kernel)
set_option maxRecDepth 20000 in
theorem gX2_weighLast_X2_spot : GoodIn wsX2_weighLast (va_wsS RX2 82 yX2_spot wsX2_spot) := goodIn_app (goodIn_of _ (by decide +kernel)) ggX2_weighLast_X2_spot
theorem dX2_weighLast_0 : decode cX2_weighLast 0 = .ok (.aload_n 0, 1) := by decide +kernel
theorem dX2_weighLast_1 : decode cX2_weighLast 1 = .ok (.getfield 18, 3) := by decide +kernel
theorem dX2_weighLast_4 : decode cX2_weighLast 4 = .ok (.iconst 1, 1) := by decide +kernel
theorem dX2_weighLast_5 : decode cX2_weighLast 5 = .ok (.isub, 1) := by decide +kernel
theorem dX2_weighLast_6 : decode cX2_weighLast 6 = .ok (.istore_n 1, 1) := by decide +kernel
theorem dX2_weighLast_7 : decode cX2_weighLast 7 = .ok (.bipush (-10), 2) := by decide +kernel
theorem dX2_weighLast_9 : decode cX2_weighLast 9 = .ok (.istore_n 2, 1) := by decide +kernel
theorem dX2_weighLast_10 : decode cX2_weighLast 10 = .ok (.iload_n 2, 1) := by decide +kernel
theorem dX2_weighLast_11 : decode cX2_weighLast 11 = .ok (.bipush 10, 2) := by decide +kernel
theorem dX2_weighLast_13 : decode cX2_weighLast 13 = .ok (.if_icmp .gt 58, 3) := by decide +kernel
theorem dX2_weighLast_16 : decode cX2_weighLast 16 = .ok (.bipush (-10), 2) := by decide +kernel
theorem dX2_weighLast_18 : decode cX2_weighLast 18 = .ok (.istore_n 3, 1) := by decide +kernel
theorem dX2_weighLast_19 : decode cX2_weighLast 19 = .ok (.iload_n 3, 1) := by decide +kernel
theorem dX2_weighLast_20 : decode cX2_weighLast 20 = .ok (.bipush 10, 2) := by decide +kernel
theorem dX2_weighLast_22 : decode cX2_weighLast 22 = .ok (.if_icmp .gt 43, 3) := by decide +kernel
theorem dX2_weighLast_25 : decode cX2_weighLast 25 = .ok (.aload_n 0, 1) := by decide +kernel
theorem dX2_weighLast_26 : decode cX2_weighLast 26 = .ok (.getfield 31, 3) := by decide +kernel
theorem dX2_weighLast_29 : decode cX2_weighLast 29 = .ok (.iload_n 1, 1) := by decide +kernel
theorem dX2_weighLast_30 : decode cX2_weighLast 30 = .ok (.iload_n 2, 1) := by decide +kernel
theorem dX2_weighLast_31 : decode cX2_weighLast 31 = .ok (.iload_n 3, 1) := by decide +kernel
theorem dX2_weighLast_32 : decode cX2_weighLast 32 = .ok (.invokestatic 82, 3) := by decide +kernel
theorem dX2_weighLast_35 : decode cX2_weighLast 35 = .ok (.aload_n 0, 1) := by decide +kernel
theorem dX2_weighLast_36 : decode cX2_weighLast 36 = .ok (.getfield 9, 3) := by decide +kernel
theorem dX2_weighLast_39 : decode cX2_weighLast 39 = .ok (.iload_n 1, 1) := by decide +kernel
theorem dX2_weighLast_40 : decode cX2_weighLast 40 = .ok (.iaload, 1) := by decide +kernel
theorem dX2_weighLast_41 : decode cX2_weighLast 41 = .ok (.aload_n 0, 1) := by decide +kernel
theorem dX2_weighLast_42 : decode cX2_weighLast 42 = .ok (.getfield 28, 3) := by decide +kernel
theorem dX2_weighLast_45 : decode cX2_weighLast 45 = .ok (.iload_n 3, 1) := by decide +kernel
theorem dX2_weighLast_46 : decode cX2_weighLast 46 = .ok (.imul, 1) := by decide +kernel
theorem dX2_weighLast_47 : decode cX2_weighLast 47 = .ok (.iadd, 1) := by decide +kernel
theorem dX2_weighLast_48 : decode cX2_weighLast 48 = .ok (.aload_n 0, 1) := by decide +kernel
theorem dX2_weighLast_49 : decode cX2_weighLast 49 = .ok (.getfield 40, 3) := by decide +kernel
theorem dX2_weighLast_52 : decode cX2_weighLast 52 = .ok (.iload_n 2, 1) := by decide +kernel
theorem dX2_weighLast_53 : decode cX2_weighLast 53 = .ok (.imul, 1) := by decide +kernel
theorem dX2_weighLast_54 : decode cX2_weighLast 54 = .ok (.iadd, 1) := by decide +kernel
theorem dX2_weighLast_55 : decode cX2_weighLast 55 = .ok (.invokestatic 47, 3) := by decide +kernel
theorem dX2_weighLast_58 : decode cX2_weighLast 58 = .ok (.iastore, 1) := by decide +kernel
theorem dX2_weighLast_59 : decode cX2_weighLast 59 = .ok (.iinc 3 1, 3) := by decide +kernel
theorem dX2_weighLast_62 : decode cX2_weighLast 62 = .ok (.goto (-43), 3) := by decide +kernel
theorem dX2_weighLast_65 : decode cX2_weighLast 65 = .ok (.iinc 2 1, 3) := by decide +kernel
theorem dX2_weighLast_68 : decode cX2_weighLast 68 = .ok (.goto (-58), 3) := by decide +kernel
theorem dX2_weighLast_71 : decode cX2_weighLast 71 = .ok (.return_, 1) := by decide +kernel
set_option maxRecDepth 20000 in
theorem ggX2_weigh_X2_spot : GoodIn wsX2_weigh wsX2_spot := goodIn_r _ [13] (by decide +kernel) (by decide +kernel)
set_option maxRecDepth 20000 in
theorem gX2_weigh_X2_spot : GoodIn wsX2_weigh (va_wsS RX2 82 yX2_spot wsX2_spot) := goodIn_app (goodIn_of _ (by decide +kernel)) ggX2_weigh_X2_spot
set_option maxRecDepth 20000 in
theorem ggX2_weigh_X2_leastRest : GoodIn wsX2_weigh wsX2_leastRest := goodIn_r _ [17, 18, 19, 20, 21, 9, 10, 11, 12, 13, 22, 23, 24, 25, 1, 26, 6, 7, 4, 8, 27, 28, 29, 30, 2, 3, 5, 31, 32, 33, 34, 35, 36, 37, 38] (by decide +kernel) (by decide +kernel)
set_option maxRecDepth 20000 in
theorem gX2_weigh_X2_leastRest : GoodIn wsX2_weigh (wsV RX2 89 RX2 yX2_leastRest wsX2_leastRest) := goodIn_app (goodIn_of _ (by decide +kernel)) ggX2_weigh_X2_leastRest
theorem dX2_weigh_0 : decode cX2_weigh 0 = .ok (.bipush (-10), 2) := by decide +kernel
theorem dX2_weigh_2 : decode cX2_weigh 2 = .ok (.istore_n 3, 1) := by decide +kernel
theorem dX2_weigh_3 : decode cX2_weigh 3 = .ok (.iload_n 3, 1) := by decide +kernel
theorem dX2_weigh_4 : decode cX2_weigh 4 = .ok (.bipush 10, 2) := by decide +kernel
theorem dX2_weigh_6 : decode cX2_weigh 6 = .ok (.if_icmp .gt 73, 3) := by decide +kernel
theorem dX2_weigh_9 : decode cX2_weigh 9 = .ok (.bipush (-10), 2) := by decide +kernel
theorem dX2_weigh_11 : decode cX2_weigh 11 = .ok (.iload_n 3, 1) := by decide +kernel
theorem dX2_weigh_12 : decode cX2_weigh 12 = .ok (.aload_n 0, 1) := by decide +kernel
theorem dX2_weigh_13 : decode cX2_weigh 13 = .ok (.getfield 22, 3) := by decide +kernel
theorem dX2_weigh_16 : decode cX2_weigh 16 = .ok (.isub, 1) := by decide +kernel
theorem dX2_weigh_17 : decode cX2_weigh 17 = .ok (.invokestatic 63, 3) := by decide +kernel
theorem dX2_weigh_20 : decode cX2_weigh 20 = .ok (.istore 4, 2) := by decide +kernel
theorem dX2_weigh_22 : decode cX2_weigh 22 = .ok (.bipush 10, 2) := by decide +kernel
theorem dX2_weigh_24 : decode cX2_weigh 24 = .ok (.iload_n 3, 1) := by decide +kernel
theorem dX2_weigh_25 : decode cX2_weigh 25 = .ok (.aload_n 0, 1) := by decide +kernel
theorem dX2_weigh_26 : decode cX2_weigh 26 = .ok (.getfield 22, 3) := by decide +kernel
theorem dX2_weigh_29 : decode cX2_weigh 29 = .ok (.iadd, 1) := by decide +kernel
theorem dX2_weigh_30 : decode cX2_weigh 30 = .ok (.invokestatic 86, 3) := by decide +kernel
theorem dX2_weigh_33 : decode cX2_weigh 33 = .ok (.istore 5, 2) := by decide +kernel
theorem dX2_weigh_35 : decode cX2_weigh 35 = .ok (.iload 4, 2) := by decide +kernel
theorem dX2_weigh_37 : decode cX2_weigh 37 = .ok (.istore 6, 2) := by decide +kernel
theorem dX2_weigh_39 : decode cX2_weigh 39 = .ok (.iload 6, 2) := by decide +kernel
theorem dX2_weigh_41 : decode cX2_weigh 41 = .ok (.iload 5, 2) := by decide +kernel
theorem dX2_weigh_43 : decode cX2_weigh 43 = .ok (.if_icmp .gt 30, 3) := by decide +kernel
theorem dX2_weigh_46 : decode cX2_weigh 46 = .ok (.aload_n 0, 1) := by decide +kernel
theorem dX2_weigh_47 : decode cX2_weigh 47 = .ok (.getfield 31, 3) := by decide +kernel
theorem dX2_weigh_50 : decode cX2_weigh 50 = .ok (.iload_n 1, 1) := by decide +kernel
theorem dX2_weigh_51 : decode cX2_weigh 51 = .ok (.iload_n 3, 1) := by decide +kernel
theorem dX2_weigh_52 : decode cX2_weigh 52 = .ok (.iload 6, 2) := by decide +kernel
theorem dX2_weigh_54 : decode cX2_weigh 54 = .ok (.invokestatic 82, 3) := by decide +kernel
theorem dX2_weigh_57 : decode cX2_weigh 57 = .ok (.aload_n 0, 1) := by decide +kernel
theorem dX2_weigh_58 : decode cX2_weigh 58 = .ok (.iload_n 1, 1) := by decide +kernel
theorem dX2_weigh_59 : decode cX2_weigh 59 = .ok (.iload_n 3, 1) := by decide +kernel
theorem dX2_weigh_60 : decode cX2_weigh 60 = .ok (.iload 6, 2) := by decide +kernel
theorem dX2_weigh_62 : decode cX2_weigh 62 = .ok (.iload_n 2, 1) := by decide +kernel
theorem dX2_weigh_63 : decode cX2_weigh 63 = .ok (.invokevirtual 89, 3) := by decide +kernel
theorem dX2_weigh_66 : decode cX2_weigh 66 = .ok (.iastore, 1) := by decide +kernel
theorem dX2_weigh_67 : decode cX2_weigh 67 = .ok (.iinc 6 1, 3) := by decide +kernel
theorem dX2_weigh_70 : decode cX2_weigh 70 = .ok (.goto (-31), 3) := by decide +kernel
theorem dX2_weigh_73 : decode cX2_weigh 73 = .ok (.iinc 3 1, 3) := by decide +kernel
theorem dX2_weigh_76 : decode cX2_weigh 76 = .ok (.goto (-73), 3) := by decide +kernel
theorem dX2_weigh_79 : decode cX2_weigh 79 = .ok (.return_, 1) := by decide +kernel
set_option maxRecDepth 20000 in
theorem ggX2_leastRest_X2_spot : GoodIn wsX2_leastRest wsX2_spot := goodIn_r _ [9] (by decide +kernel) (by decide +kernel)
set_option maxRecDepth 20000 in
theorem gX2_leastRest_X2_spot : GoodIn wsX2_leastRest (va_wsS RX2 82 yX2_spot wsX2_spot) := goodIn_app (goodIn_of _ (by decide +kernel)) ggX2_leastRest_X2_spot
set_option maxRecDepth 20000 in
theorem ggX2_leastRest_X2_highestAfter : GoodIn wsX2_leastRest wsX2_highestAfter := goodIn_r _ [13, 14, 15, 16, 17, 18, 19, 27, 28, 29, 30, 31, 32, 33, 34] (by decide +kernel) (by decide +kernel)
set_option maxRecDepth 20000 in
theorem gX2_leastRest_X2_highestAfter : GoodIn wsX2_leastRest (wsV RX2 93 RX2 yX2_highestAfter wsX2_highestAfter) := goodIn_app (goodIn_of _ (by decide +kernel)) ggX2_leastRest_X2_highestAfter
set_option maxRecDepth 20000 in
theorem ggX2_leastRest_X2_lowestAfter : GoodIn wsX2_leastRest wsX2_lowestAfter := goodIn_r _ [23, 14, 15, 24, 25, 18, 26, 27, 28, 29, 30, 31, 32, 33, 34] (by decide +kernel) (by decide +kernel)
set_option maxRecDepth 20000 in
theorem gX2_leastRest_X2_lowestAfter : GoodIn wsX2_leastRest (wsV RX2 96 RX2 yX2_lowestAfter wsX2_lowestAfter) := goodIn_app (goodIn_of _ (by decide +kernel)) ggX2_leastRest_X2_lowestAfter
theorem dX2_leastRest_0 : decode cX2_leastRest 0 = .ok (.ldc 92, 2) := by decide +kernel
theorem dX2_leastRest_2 : decode cX2_leastRest 2 = .ok (.istore 5, 2) := by decide +kernel
theorem dX2_leastRest_4 : decode cX2_leastRest 4 = .ok (.aload_n 0, 1) := by decide +kernel
theorem dX2_leastRest_5 : decode cX2_leastRest 5 = .ok (.getfield 9, 3) := by decide +kernel
theorem dX2_leastRest_8 : decode cX2_leastRest 8 = .ok (.iload_n 1, 1) := by decide +kernel
theorem dX2_leastRest_9 : decode cX2_leastRest 9 = .ok (.iaload, 1) := by decide +kernel
theorem dX2_leastRest_10 : decode cX2_leastRest 10 = .ok (.aload_n 0, 1) := by decide +kernel
theorem dX2_leastRest_11 : decode cX2_leastRest 11 = .ok (.getfield 28, 3) := by decide +kernel
theorem dX2_leastRest_14 : decode cX2_leastRest 14 = .ok (.iload_n 3, 1) := by decide +kernel
theorem dX2_leastRest_15 : decode cX2_leastRest 15 = .ok (.imul, 1) := by decide +kernel
theorem dX2_leastRest_16 : decode cX2_leastRest 16 = .ok (.iadd, 1) := by decide +kernel
theorem dX2_leastRest_17 : decode cX2_leastRest 17 = .ok (.aload_n 0, 1) := by decide +kernel
theorem dX2_leastRest_18 : decode cX2_leastRest 18 = .ok (.getfield 40, 3) := by decide +kernel
theorem dX2_leastRest_21 : decode cX2_leastRest 21 = .ok (.iload_n 2, 1) := by decide +kernel
theorem dX2_leastRest_22 : decode cX2_leastRest 22 = .ok (.imul, 1) := by decide +kernel
theorem dX2_leastRest_23 : decode cX2_leastRest 23 = .ok (.iadd, 1) := by decide +kernel
theorem dX2_leastRest_24 : decode cX2_leastRest 24 = .ok (.istore 6, 2) := by decide +kernel
theorem dX2_leastRest_26 : decode cX2_leastRest 26 = .ok (.iload_n 1, 1) := by decide +kernel
theorem dX2_leastRest_27 : decode cX2_leastRest 27 = .ok (.iconst 1, 1) := by decide +kernel
theorem dX2_leastRest_28 : decode cX2_leastRest 28 = .ok (.iadd, 1) := by decide +kernel
theorem dX2_leastRest_29 : decode cX2_leastRest 29 = .ok (.iload_n 3, 1) := by decide +kernel
theorem dX2_leastRest_30 : decode cX2_leastRest 30 = .ok (.iconst 0, 1) := by decide +kernel
theorem dX2_leastRest_31 : decode cX2_leastRest 31 = .ok (.invokestatic 82, 3) := by decide +kernel
theorem dX2_leastRest_34 : decode cX2_leastRest 34 = .ok (.istore 7, 2) := by decide +kernel
theorem dX2_leastRest_36 : decode cX2_leastRest 36 = .ok (.aload_n 0, 1) := by decide +kernel
theorem dX2_leastRest_37 : decode cX2_leastRest 37 = .ok (.iload_n 2, 1) := by decide +kernel
theorem dX2_leastRest_38 : decode cX2_leastRest 38 = .ok (.iload_n 3, 1) := by decide +kernel
theorem dX2_leastRest_39 : decode cX2_leastRest 39 = .ok (.invokevirtual 93, 3) := by decide +kernel
theorem dX2_leastRest_42 : decode cX2_leastRest 42 = .ok (.istore 8, 2) := by decide +kernel
theorem dX2_leastRest_44 : decode cX2_leastRest 44 = .ok (.aload_n 0, 1) := by decide +kernel
theorem dX2_leastRest_45 : decode cX2_leastRest 45 = .ok (.iload_n 2, 1) := by decide +kernel
theorem dX2_leastRest_46 : decode cX2_leastRest 46 = .ok (.iload_n 3, 1) := by decide +kernel
theorem dX2_leastRest_47 : decode cX2_leastRest 47 = .ok (.invokevirtual 96, 3) := by decide +kernel
theorem dX2_leastRest_50 : decode cX2_leastRest 50 = .ok (.istore 9, 2) := by decide +kernel
theorem dX2_leastRest_52 : decode cX2_leastRest 52 = .ok (.iload 9, 2) := by decide +kernel
theorem dX2_leastRest_54 : decode cX2_leastRest 54 = .ok (.iload 8, 2) := by decide +kernel
theorem dX2_leastRest_56 : decode cX2_leastRest 56 = .ok (.if_icmp .gt 88, 3) := by decide +kernel
theorem dX2_leastRest_59 : decode cX2_leastRest 59 = .ok (.iload 6, 2) := by decide +kernel
theorem dX2_leastRest_61 : decode cX2_leastRest 61 = .ok (.aload_n 0, 1) := by decide +kernel
theorem dX2_leastRest_62 : decode cX2_leastRest 62 = .ok (.getfield 40, 3) := by decide +kernel
theorem dX2_leastRest_65 : decode cX2_leastRest 65 = .ok (.iload 9, 2) := by decide +kernel
theorem dX2_leastRest_67 : decode cX2_leastRest 67 = .ok (.imul, 1) := by decide +kernel
theorem dX2_leastRest_68 : decode cX2_leastRest 68 = .ok (.iadd, 1) := by decide +kernel
theorem dX2_leastRest_69 : decode cX2_leastRest 69 = .ok (.istore 10, 2) := by decide +kernel
theorem dX2_leastRest_71 : decode cX2_leastRest 71 = .ok (.iload 10, 2) := by decide +kernel
theorem dX2_leastRest_73 : decode cX2_leastRest 73 = .ok (.ifCond .ge 9, 3) := by decide +kernel
theorem dX2_leastRest_76 : decode cX2_leastRest 76 = .ok (.iload 10, 2) := by decide +kernel
theorem dX2_leastRest_78 : decode cX2_leastRest 78 = .ok (.ineg, 1) := by decide +kernel
theorem dX2_leastRest_79 : decode cX2_leastRest 79 = .ok (.goto 5, 3) := by decide +kernel
theorem dX2_leastRest_82 : decode cX2_leastRest 82 = .ok (.iload 10, 2) := by decide +kernel
theorem dX2_leastRest_84 : decode cX2_leastRest 84 = .ok (.istore 11, 2) := by decide +kernel
theorem dX2_leastRest_86 : decode cX2_leastRest 86 = .ok (.aload_n 0, 1) := by decide +kernel
theorem dX2_leastRest_87 : decode cX2_leastRest 87 = .ok (.getfield 31, 3) := by decide +kernel
theorem dX2_leastRest_90 : decode cX2_leastRest 90 = .ok (.iload 7, 2) := by decide +kernel
theorem dX2_leastRest_92 : decode cX2_leastRest 92 = .ok (.iload 9, 2) := by decide +kernel
theorem dX2_leastRest_94 : decode cX2_leastRest 94 = .ok (.iadd, 1) := by decide +kernel
theorem dX2_leastRest_95 : decode cX2_leastRest 95 = .ok (.iaload, 1) := by decide +kernel
theorem dX2_leastRest_96 : decode cX2_leastRest 96 = .ok (.istore 12, 2) := by decide +kernel
theorem dX2_leastRest_98 : decode cX2_leastRest 98 = .ok (.iload 4, 2) := by decide +kernel
theorem dX2_leastRest_100 : decode cX2_leastRest 100 = .ok (.ifCond .eq 11, 3) := by decide +kernel
theorem dX2_leastRest_103 : decode cX2_leastRest 103 = .ok (.iload 11, 2) := by decide +kernel
theorem dX2_leastRest_105 : decode cX2_leastRest 105 = .ok (.iload 12, 2) := by decide +kernel
theorem dX2_leastRest_107 : decode cX2_leastRest 107 = .ok (.iadd, 1) := by decide +kernel
theorem dX2_leastRest_108 : decode cX2_leastRest 108 = .ok (.goto 17, 3) := by decide +kernel
theorem dX2_leastRest_111 : decode cX2_leastRest 111 = .ok (.iload 11, 2) := by decide +kernel
theorem dX2_leastRest_113 : decode cX2_leastRest 113 = .ok (.iload 12, 2) := by decide +kernel
theorem dX2_leastRest_115 : decode cX2_leastRest 115 = .ok (.if_icmp .le 8, 3) := by decide +kernel
theorem dX2_leastRest_118 : decode cX2_leastRest 118 = .ok (.iload 11, 2) := by decide +kernel
theorem dX2_leastRest_120 : decode cX2_leastRest 120 = .ok (.goto 5, 3) := by decide +kernel
theorem dX2_leastRest_123 : decode cX2_leastRest 123 = .ok (.iload 12, 2) := by decide +kernel
theorem dX2_leastRest_125 : decode cX2_leastRest 125 = .ok (.istore 13, 2) := by decide +kernel
theorem dX2_leastRest_127 : decode cX2_leastRest 127 = .ok (.iload 13, 2) := by decide +kernel
theorem dX2_leastRest_129 : decode cX2_leastRest 129 = .ok (.iload 5, 2) := by decide +kernel
theorem dX2_leastRest_131 : decode cX2_leastRest 131 = .ok (.if_icmp .ge 7, 3) := by decide +kernel
theorem dX2_leastRest_134 : decode cX2_leastRest 134 = .ok (.iload 13, 2) := by decide +kernel
theorem dX2_leastRest_136 : decode cX2_leastRest 136 = .ok (.istore 5, 2) := by decide +kernel
theorem dX2_leastRest_138 : decode cX2_leastRest 138 = .ok (.iinc 9 1, 3) := by decide +kernel
theorem dX2_leastRest_141 : decode cX2_leastRest 141 = .ok (.goto (-89), 3) := by decide +kernel
theorem dX2_leastRest_144 : decode cX2_leastRest 144 = .ok (.iload 5, 2) := by decide +kernel
theorem dX2_leastRest_146 : decode cX2_leastRest 146 = .ok (.ireturn, 1) := by decide +kernel
set_option maxRecDepth 20000 in
theorem ggX2_settleFirstTwo_X2_spot : GoodIn wsX2_settleFirstTwo wsX2_spot := goodIn_r _ [21] (by decide +kernel) (by decide +kernel)
set_option maxRecDepth 20000 in
theorem gX2_settleFirstTwo_X2_spot : GoodIn wsX2_settleFirstTwo (va_wsS RX2 82 yX2_spot wsX2_spot) := goodIn_app (goodIn_of _ (by decide +kernel)) ggX2_settleFirstTwo_X2_spot
set_option maxRecDepth 20000 in
theorem ggX2_settleFirstTwo_X2_together : GoodIn wsX2_settleFirstTwo wsX2_together := goodIn_r _ [24, 7, 8, 5, 9] (by decide +kernel) (by decide +kernel)
set_option maxRecDepth 20000 in
theorem gX2_settleFirstTwo_X2_together : GoodIn wsX2_settleFirstTwo (va_wsS RX2 59 yX2_together wsX2_together) := goodIn_app (goodIn_of _ (by decide +kernel)) ggX2_settleFirstTwo_X2_together
theorem dX2_settleFirstTwo_0 : decode cX2_settleFirstTwo 0 = .ok (.ldc 92, 2) := by decide +kernel
theorem dX2_settleFirstTwo_2 : decode cX2_settleFirstTwo 2 = .ok (.istore_n 2, 1) := by decide +kernel
theorem dX2_settleFirstTwo_3 : decode cX2_settleFirstTwo 3 = .ok (.bipush (-10), 2) := by decide +kernel
theorem dX2_settleFirstTwo_5 : decode cX2_settleFirstTwo 5 = .ok (.istore_n 3, 1) := by decide +kernel
theorem dX2_settleFirstTwo_6 : decode cX2_settleFirstTwo 6 = .ok (.iload_n 3, 1) := by decide +kernel
theorem dX2_settleFirstTwo_7 : decode cX2_settleFirstTwo 7 = .ok (.bipush 10, 2) := by decide +kernel
theorem dX2_settleFirstTwo_9 : decode cX2_settleFirstTwo 9 = .ok (.if_icmp .gt 118, 3) := by decide +kernel
theorem dX2_settleFirstTwo_12 : decode cX2_settleFirstTwo 12 = .ok (.bipush 10, 2) := by decide +kernel
theorem dX2_settleFirstTwo_14 : decode cX2_settleFirstTwo 14 = .ok (.iload_n 3, 1) := by decide +kernel
theorem dX2_settleFirstTwo_15 : decode cX2_settleFirstTwo 15 = .ok (.aload_n 0, 1) := by decide +kernel
theorem dX2_settleFirstTwo_16 : decode cX2_settleFirstTwo 16 = .ok (.getfield 22, 3) := by decide +kernel
theorem dX2_settleFirstTwo_19 : decode cX2_settleFirstTwo 19 = .ok (.iadd, 1) := by decide +kernel
theorem dX2_settleFirstTwo_20 : decode cX2_settleFirstTwo 20 = .ok (.invokestatic 86, 3) := by decide +kernel
theorem dX2_settleFirstTwo_23 : decode cX2_settleFirstTwo 23 = .ok (.istore 4, 2) := by decide +kernel
theorem dX2_settleFirstTwo_25 : decode cX2_settleFirstTwo 25 = .ok (.bipush (-10), 2) := by decide +kernel
theorem dX2_settleFirstTwo_27 : decode cX2_settleFirstTwo 27 = .ok (.iload_n 3, 1) := by decide +kernel
theorem dX2_settleFirstTwo_28 : decode cX2_settleFirstTwo 28 = .ok (.aload_n 0, 1) := by decide +kernel
theorem dX2_settleFirstTwo_29 : decode cX2_settleFirstTwo 29 = .ok (.getfield 22, 3) := by decide +kernel
theorem dX2_settleFirstTwo_32 : decode cX2_settleFirstTwo 32 = .ok (.isub, 1) := by decide +kernel
theorem dX2_settleFirstTwo_33 : decode cX2_settleFirstTwo 33 = .ok (.invokestatic 63, 3) := by decide +kernel
theorem dX2_settleFirstTwo_36 : decode cX2_settleFirstTwo 36 = .ok (.istore 5, 2) := by decide +kernel
theorem dX2_settleFirstTwo_38 : decode cX2_settleFirstTwo 38 = .ok (.iload 5, 2) := by decide +kernel
theorem dX2_settleFirstTwo_40 : decode cX2_settleFirstTwo 40 = .ok (.iload 4, 2) := by decide +kernel
theorem dX2_settleFirstTwo_42 : decode cX2_settleFirstTwo 42 = .ok (.if_icmp .gt 79, 3) := by decide +kernel
theorem dX2_settleFirstTwo_45 : decode cX2_settleFirstTwo 45 = .ok (.aload_n 0, 1) := by decide +kernel
theorem dX2_settleFirstTwo_46 : decode cX2_settleFirstTwo 46 = .ok (.getfield 9, 3) := by decide +kernel
theorem dX2_settleFirstTwo_49 : decode cX2_settleFirstTwo 49 = .ok (.iconst 0, 1) := by decide +kernel
theorem dX2_settleFirstTwo_50 : decode cX2_settleFirstTwo 50 = .ok (.iaload, 1) := by decide +kernel
theorem dX2_settleFirstTwo_51 : decode cX2_settleFirstTwo 51 = .ok (.aload_n 0, 1) := by decide +kernel
theorem dX2_settleFirstTwo_52 : decode cX2_settleFirstTwo 52 = .ok (.getfield 28, 3) := by decide +kernel
theorem dX2_settleFirstTwo_55 : decode cX2_settleFirstTwo 55 = .ok (.iload_n 3, 1) := by decide +kernel
theorem dX2_settleFirstTwo_56 : decode cX2_settleFirstTwo 56 = .ok (.imul, 1) := by decide +kernel
theorem dX2_settleFirstTwo_57 : decode cX2_settleFirstTwo 57 = .ok (.iadd, 1) := by decide +kernel
theorem dX2_settleFirstTwo_58 : decode cX2_settleFirstTwo 58 = .ok (.aload_n 0, 1) := by decide +kernel
theorem dX2_settleFirstTwo_59 : decode cX2_settleFirstTwo 59 = .ok (.getfield 40, 3) := by decide +kernel
theorem dX2_settleFirstTwo_62 : decode cX2_settleFirstTwo 62 = .ok (.iload 5, 2) := by decide +kernel
theorem dX2_settleFirstTwo_64 : decode cX2_settleFirstTwo 64 = .ok (.imul, 1) := by decide +kernel
theorem dX2_settleFirstTwo_65 : decode cX2_settleFirstTwo 65 = .ok (.iadd, 1) := by decide +kernel
theorem dX2_settleFirstTwo_66 : decode cX2_settleFirstTwo 66 = .ok (.invokestatic 47, 3) := by decide +kernel
theorem dX2_settleFirstTwo_69 : decode cX2_settleFirstTwo 69 = .ok (.istore 6, 2) := by decide +kernel
theorem dX2_settleFirstTwo_71 : decode cX2_settleFirstTwo 71 = .ok (.iload 6, 2) := by decide +kernel
theorem dX2_settleFirstTwo_73 : decode cX2_settleFirstTwo 73 = .ok (.aload_n 0, 1) := by decide +kernel
theorem dX2_settleFirstTwo_74 : decode cX2_settleFirstTwo 74 = .ok (.getfield 31, 3) := by decide +kernel
theorem dX2_settleFirstTwo_77 : decode cX2_settleFirstTwo 77 = .ok (.iconst 1, 1) := by decide +kernel
theorem dX2_settleFirstTwo_78 : decode cX2_settleFirstTwo 78 = .ok (.iload_n 3, 1) := by decide +kernel
theorem dX2_settleFirstTwo_79 : decode cX2_settleFirstTwo 79 = .ok (.iload 5, 2) := by decide +kernel
theorem dX2_settleFirstTwo_81 : decode cX2_settleFirstTwo 81 = .ok (.invokestatic 82, 3) := by decide +kernel
theorem dX2_settleFirstTwo_84 : decode cX2_settleFirstTwo 84 = .ok (.iaload, 1) := by decide +kernel
theorem dX2_settleFirstTwo_85 : decode cX2_settleFirstTwo 85 = .ok (.iload_n 1, 1) := by decide +kernel
theorem dX2_settleFirstTwo_86 : decode cX2_settleFirstTwo 86 = .ok (.invokestatic 59, 3) := by decide +kernel
theorem dX2_settleFirstTwo_89 : decode cX2_settleFirstTwo 89 = .ok (.istore 7, 2) := by decide +kernel
theorem dX2_settleFirstTwo_91 : decode cX2_settleFirstTwo 91 = .ok (.iload 7, 2) := by decide +kernel
theorem dX2_settleFirstTwo_93 : decode cX2_settleFirstTwo 93 = .ok (.iload_n 2, 1) := by decide +kernel
theorem dX2_settleFirstTwo_94 : decode cX2_settleFirstTwo 94 = .ok (.if_icmp .ge 21, 3) := by decide +kernel
theorem dX2_settleFirstTwo_97 : decode cX2_settleFirstTwo 97 = .ok (.iload 7, 2) := by decide +kernel
theorem dX2_settleFirstTwo_99 : decode cX2_settleFirstTwo 99 = .ok (.istore_n 2, 1) := by decide +kernel
theorem dX2_settleFirstTwo_100 : decode cX2_settleFirstTwo 100 = .ok (.aload_n 0, 1) := by decide +kernel
theorem dX2_settleFirstTwo_101 : decode cX2_settleFirstTwo 101 = .ok (.getfield 15, 3) := by decide +kernel
theorem dX2_settleFirstTwo_104 : decode cX2_settleFirstTwo 104 = .ok (.iconst 0, 1) := by decide +kernel
theorem dX2_settleFirstTwo_105 : decode cX2_settleFirstTwo 105 = .ok (.iload_n 3, 1) := by decide +kernel
theorem dX2_settleFirstTwo_106 : decode cX2_settleFirstTwo 106 = .ok (.iastore, 1) := by decide +kernel
theorem dX2_settleFirstTwo_107 : decode cX2_settleFirstTwo 107 = .ok (.aload_n 0, 1) := by decide +kernel
theorem dX2_settleFirstTwo_108 : decode cX2_settleFirstTwo 108 = .ok (.getfield 15, 3) := by decide +kernel
theorem dX2_settleFirstTwo_111 : decode cX2_settleFirstTwo 111 = .ok (.iconst 1, 1) := by decide +kernel
theorem dX2_settleFirstTwo_112 : decode cX2_settleFirstTwo 112 = .ok (.iload 5, 2) := by decide +kernel
theorem dX2_settleFirstTwo_114 : decode cX2_settleFirstTwo 114 = .ok (.iastore, 1) := by decide +kernel
theorem dX2_settleFirstTwo_115 : decode cX2_settleFirstTwo 115 = .ok (.iinc 5 1, 3) := by decide +kernel
theorem dX2_settleFirstTwo_118 : decode cX2_settleFirstTwo 118 = .ok (.goto (-80), 3) := by decide +kernel
theorem dX2_settleFirstTwo_121 : decode cX2_settleFirstTwo 121 = .ok (.iinc 3 1, 3) := by decide +kernel
theorem dX2_settleFirstTwo_124 : decode cX2_settleFirstTwo 124 = .ok (.goto (-118), 3) := by decide +kernel
theorem dX2_settleFirstTwo_127 : decode cX2_settleFirstTwo 127 = .ok (.iload_n 2, 1) := by decide +kernel
theorem dX2_settleFirstTwo_128 : decode cX2_settleFirstTwo 128 = .ok (.ireturn, 1) := by decide +kernel
set_option maxRecDepth 20000 in
theorem ggX2_lesserAfter_X2_spot : GoodIn wsX2_lesserAfter wsX2_spot := goodIn_r _ [13] (by decide +kernel) (by decide +kernel)
set_option maxRecDepth 20000 in
theorem gX2_lesserAfter_X2_spot : GoodIn wsX2_lesserAfter (va_wsS RX2 82 yX2_spot wsX2_spot) := goodIn_app (goodIn_of _ (by decide +kernel)) ggX2_lesserAfter_X2_spot
set_option maxRecDepth 20000 in
theorem ggX2_lesserAfter_X2_highestAfter : GoodIn wsX2_lesserAfter wsX2_highestAfter := goodIn_r _ [17, 18, 19, 20, 21, 7, 22, 33, 34, 35, 36, 37, 38, 39, 40] (by decide +kernel) (by decide +kernel)
set_option maxRecDepth 20000 in
theorem gX2_lesserAfter_X2_highestAfter : GoodIn wsX2_lesserAfter (wsV RX2 93 RX2 yX2_highestAfter wsX2_highestAfter) := goodIn_app (goodIn_of _ (by decide +kernel)) ggX2_lesserAfter_X2_highestAfter
set_option maxRecDepth 20000 in
theorem ggX2_lesserAfter_X2_lowestAfter : GoodIn wsX2_lesserAfter wsX2_lowestAfter := goodIn_r _ [26, 18, 19, 27, 28, 7, 29, 33, 34, 35, 36, 37, 38, 39, 40] (by decide +kernel) (by decide +kernel)
set_option maxRecDepth 20000 in
theorem gX2_lesserAfter_X2_lowestAfter : GoodIn wsX2_lesserAfter (wsV RX2 96 RX2 yX2_lowestAfter wsX2_lowestAfter) := goodIn_app (goodIn_of _ (by decide +kernel)) ggX2_lesserAfter_X2_lowestAfter
set_option maxRecDepth 20000 in
theorem ggX2_lesserAfter_X2_together : GoodIn wsX2_lesserAfter wsX2_together := goodIn_r _ [32, 27, 28, 7, 29] (by decide +kernel) (by decide +kernel)
set_option maxRecDepth 20000 in
theorem gX2_lesserAfter_X2_together : GoodIn wsX2_lesserAfter (va_wsS RX2 59 yX2_together wsX2_together) := goodIn_app (goodIn_of _ (by decide +kernel)) ggX2_lesserAfter_X2_together
theorem dX2_lesserAfter_0 : decode cX2_lesserAfter 0 = .ok (.aload_n 0, 1) := by decide +kernel
theorem dX2_lesserAfter_1 : decode cX2_lesserAfter 1 = .ok (.getfield 15, 3) := by decide +kernel
theorem dX2_lesserAfter_4 : decode cX2_lesserAfter 4 = .ok (.iload_n 1, 1) := by decide +kernel
theorem dX2_lesserAfter_5 : decode cX2_lesserAfter 5 = .ok (.iconst 1, 1) := by decide +kernel
theorem dX2_lesserAfter_6 : decode cX2_lesserAfter 6 = .ok (.isub, 1) := by decide +kernel
theorem dX2_lesserAfter_7 : decode cX2_lesserAfter 7 = .ok (.iaload, 1) := by decide +kernel
theorem dX2_lesserAfter_8 : decode cX2_lesserAfter 8 = .ok (.istore 5, 2) := by decide +kernel
theorem dX2_lesserAfter_10 : decode cX2_lesserAfter 10 = .ok (.aload_n 0, 1) := by decide +kernel
theorem dX2_lesserAfter_11 : decode cX2_lesserAfter 11 = .ok (.getfield 15, 3) := by decide +kernel
theorem dX2_lesserAfter_14 : decode cX2_lesserAfter 14 = .ok (.iload_n 1, 1) := by decide +kernel
theorem dX2_lesserAfter_15 : decode cX2_lesserAfter 15 = .ok (.iaload, 1) := by decide +kernel
theorem dX2_lesserAfter_16 : decode cX2_lesserAfter 16 = .ok (.istore 6, 2) := by decide +kernel
theorem dX2_lesserAfter_18 : decode cX2_lesserAfter 18 = .ok (.aload_n 0, 1) := by decide +kernel
theorem dX2_lesserAfter_19 : decode cX2_lesserAfter 19 = .ok (.getfield 9, 3) := by decide +kernel
theorem dX2_lesserAfter_22 : decode cX2_lesserAfter 22 = .ok (.iload_n 1, 1) := by decide +kernel
theorem dX2_lesserAfter_23 : decode cX2_lesserAfter 23 = .ok (.iaload, 1) := by decide +kernel
theorem dX2_lesserAfter_24 : decode cX2_lesserAfter 24 = .ok (.aload_n 0, 1) := by decide +kernel
theorem dX2_lesserAfter_25 : decode cX2_lesserAfter 25 = .ok (.getfield 28, 3) := by decide +kernel
theorem dX2_lesserAfter_28 : decode cX2_lesserAfter 28 = .ok (.iload 6, 2) := by decide +kernel
theorem dX2_lesserAfter_30 : decode cX2_lesserAfter 30 = .ok (.imul, 1) := by decide +kernel
theorem dX2_lesserAfter_31 : decode cX2_lesserAfter 31 = .ok (.iadd, 1) := by decide +kernel
theorem dX2_lesserAfter_32 : decode cX2_lesserAfter 32 = .ok (.aload_n 0, 1) := by decide +kernel
theorem dX2_lesserAfter_33 : decode cX2_lesserAfter 33 = .ok (.getfield 40, 3) := by decide +kernel
theorem dX2_lesserAfter_36 : decode cX2_lesserAfter 36 = .ok (.iload 5, 2) := by decide +kernel
theorem dX2_lesserAfter_38 : decode cX2_lesserAfter 38 = .ok (.imul, 1) := by decide +kernel
theorem dX2_lesserAfter_39 : decode cX2_lesserAfter 39 = .ok (.iadd, 1) := by decide +kernel
theorem dX2_lesserAfter_40 : decode cX2_lesserAfter 40 = .ok (.istore 7, 2) := by decide +kernel
theorem dX2_lesserAfter_42 : decode cX2_lesserAfter 42 = .ok (.iload_n 1, 1) := by decide +kernel
theorem dX2_lesserAfter_43 : decode cX2_lesserAfter 43 = .ok (.iconst 1, 1) := by decide +kernel
theorem dX2_lesserAfter_44 : decode cX2_lesserAfter 44 = .ok (.iadd, 1) := by decide +kernel
theorem dX2_lesserAfter_45 : decode cX2_lesserAfter 45 = .ok (.iload 6, 2) := by decide +kernel
theorem dX2_lesserAfter_47 : decode cX2_lesserAfter 47 = .ok (.iconst 0, 1) := by decide +kernel
theorem dX2_lesserAfter_48 : decode cX2_lesserAfter 48 = .ok (.invokestatic 82, 3) := by decide +kernel
theorem dX2_lesserAfter_51 : decode cX2_lesserAfter 51 = .ok (.istore 8, 2) := by decide +kernel
theorem dX2_lesserAfter_53 : decode cX2_lesserAfter 53 = .ok (.aload_n 0, 1) := by decide +kernel
theorem dX2_lesserAfter_54 : decode cX2_lesserAfter 54 = .ok (.iload 5, 2) := by decide +kernel
theorem dX2_lesserAfter_56 : decode cX2_lesserAfter 56 = .ok (.iload 6, 2) := by decide +kernel
theorem dX2_lesserAfter_58 : decode cX2_lesserAfter 58 = .ok (.invokevirtual 93, 3) := by decide +kernel
theorem dX2_lesserAfter_61 : decode cX2_lesserAfter 61 = .ok (.istore 9, 2) := by decide +kernel
theorem dX2_lesserAfter_63 : decode cX2_lesserAfter 63 = .ok (.aload_n 0, 1) := by decide +kernel
theorem dX2_lesserAfter_64 : decode cX2_lesserAfter 64 = .ok (.iload 5, 2) := by decide +kernel
theorem dX2_lesserAfter_66 : decode cX2_lesserAfter 66 = .ok (.iload 6, 2) := by decide +kernel
theorem dX2_lesserAfter_68 : decode cX2_lesserAfter 68 = .ok (.invokevirtual 96, 3) := by decide +kernel
theorem dX2_lesserAfter_71 : decode cX2_lesserAfter 71 = .ok (.istore 10, 2) := by decide +kernel
theorem dX2_lesserAfter_73 : decode cX2_lesserAfter 73 = .ok (.iload 10, 2) := by decide +kernel
theorem dX2_lesserAfter_75 : decode cX2_lesserAfter 75 = .ok (.iload 9, 2) := by decide +kernel
theorem dX2_lesserAfter_77 : decode cX2_lesserAfter 77 = .ok (.if_icmp .ge 54, 3) := by decide +kernel
theorem dX2_lesserAfter_80 : decode cX2_lesserAfter 80 = .ok (.iload_n 2, 1) := by decide +kernel
theorem dX2_lesserAfter_81 : decode cX2_lesserAfter 81 = .ok (.iload 7, 2) := by decide +kernel
theorem dX2_lesserAfter_83 : decode cX2_lesserAfter 83 = .ok (.aload_n 0, 1) := by decide +kernel
theorem dX2_lesserAfter_84 : decode cX2_lesserAfter 84 = .ok (.getfield 40, 3) := by decide +kernel
theorem dX2_lesserAfter_87 : decode cX2_lesserAfter 87 = .ok (.iload 10, 2) := by decide +kernel
theorem dX2_lesserAfter_89 : decode cX2_lesserAfter 89 = .ok (.imul, 1) := by decide +kernel
theorem dX2_lesserAfter_90 : decode cX2_lesserAfter 90 = .ok (.iadd, 1) := by decide +kernel
theorem dX2_lesserAfter_91 : decode cX2_lesserAfter 91 = .ok (.invokestatic 47, 3) := by decide +kernel
theorem dX2_lesserAfter_94 : decode cX2_lesserAfter 94 = .ok (.iload 4, 2) := by decide +kernel
theorem dX2_lesserAfter_96 : decode cX2_lesserAfter 96 = .ok (.invokestatic 59, 3) := by decide +kernel
theorem dX2_lesserAfter_99 : decode cX2_lesserAfter 99 = .ok (.istore 11, 2) := by decide +kernel
theorem dX2_lesserAfter_101 : decode cX2_lesserAfter 101 = .ok (.iload 11, 2) := by decide +kernel
theorem dX2_lesserAfter_103 : decode cX2_lesserAfter 103 = .ok (.aload_n 0, 1) := by decide +kernel
theorem dX2_lesserAfter_104 : decode cX2_lesserAfter 104 = .ok (.getfield 31, 3) := by decide +kernel
theorem dX2_lesserAfter_107 : decode cX2_lesserAfter 107 = .ok (.iload 8, 2) := by decide +kernel
theorem dX2_lesserAfter_109 : decode cX2_lesserAfter 109 = .ok (.iload 10, 2) := by decide +kernel
theorem dX2_lesserAfter_111 : decode cX2_lesserAfter 111 = .ok (.iadd, 1) := by decide +kernel
theorem dX2_lesserAfter_112 : decode cX2_lesserAfter 112 = .ok (.iaload, 1) := by decide +kernel
theorem dX2_lesserAfter_113 : decode cX2_lesserAfter 113 = .ok (.iload 4, 2) := by decide +kernel
theorem dX2_lesserAfter_115 : decode cX2_lesserAfter 115 = .ok (.invokestatic 59, 3) := by decide +kernel
theorem dX2_lesserAfter_118 : decode cX2_lesserAfter 118 = .ok (.iload_n 3, 1) := by decide +kernel
theorem dX2_lesserAfter_119 : decode cX2_lesserAfter 119 = .ok (.if_icmp .gt 6, 3) := by decide +kernel
theorem dX2_lesserAfter_122 : decode cX2_lesserAfter 122 = .ok (.iload 10, 2) := by decide +kernel
theorem dX2_lesserAfter_124 : decode cX2_lesserAfter 124 = .ok (.ireturn, 1) := by decide +kernel
theorem dX2_lesserAfter_125 : decode cX2_lesserAfter 125 = .ok (.iinc 10 1, 3) := by decide +kernel
