set_option maxRecDepth 20000 in
theorem ggX4_init_X0_init : GoodIn wsX4_init wsX0_init := goodIn_r _ [24, 25, 2, 3, 12, 26, 27, 28, 29, 30, 31, 6, 32, 39, 40, 41] (by decide +kernel) (by decide +kernel)
set_option maxRecDepth 20000 in
theorem gX4_init_X0_init : GoodIn wsX4_init (wsX0_init) := ggX4_init_X0_init
set_option maxRecDepth 20000 in
theorem ggX4_init_X2_init : GoodIn wsX4_init wsX2_init := goodIn_r _ [34, 35, 2, 3, 12, 36, 37, 38, 53, 54, 55] (by decide +kernel) (by decide +kernel)
set_option maxRecDepth 20000 in
theorem gX4_init_X2_init_n20 : GoodIn wsX4_init (wsX2_init) := ggX4_init_X2_init
theorem dX4_init_0 : decode cX4_init 0 = .ok (.aload_n 0, 1) := by decide +kernel
theorem dX4_init_1 : decode cX4_init 1 = .ok (.invokespecial 3, 3) := by decide +kernel
theorem dX4_init_4 : decode cX4_init 4 = .ok (.aload_n 0, 1) := by decide +kernel
theorem dX4_init_5 : decode cX4_init 5 = .ok (.new 9, 3) := by decide +kernel
theorem dX4_init_8 : decode cX4_init 8 = .ok (.dup, 1) := by decide +kernel
theorem dX4_init_9 : decode cX4_init 9 = .ok (.invokespecial 11, 3) := by decide +kernel
theorem dX4_init_12 : decode cX4_init 12 = .ok (.putfield 12, 3) := by decide +kernel
theorem dX4_init_15 : decode cX4_init 15 = .ok (.aload_n 0, 1) := by decide +kernel
theorem dX4_init_16 : decode cX4_init 16 = .ok (.new 18, 3) := by decide +kernel
theorem dX4_init_19 : decode cX4_init 19 = .ok (.dup, 1) := by decide +kernel
theorem dX4_init_20 : decode cX4_init 20 = .ok (.invokespecial 20, 3) := by decide +kernel
theorem dX4_init_23 : decode cX4_init 23 = .ok (.putfield 21, 3) := by decide +kernel
theorem dX4_init_26 : decode cX4_init 26 = .ok (.aload_n 0, 1) := by decide +kernel
theorem dX4_init_27 : decode cX4_init 27 = .ok (.iconst 3, 1) := by decide +kernel
theorem dX4_init_28 : decode cX4_init 28 = .ok (.newarray .int, 2) := by decide +kernel
theorem dX4_init_30 : decode cX4_init 30 = .ok (.dup, 1) := by decide +kernel
theorem dX4_init_31 : decode cX4_init 31 = .ok (.iconst 0, 1) := by decide +kernel
theorem dX4_init_32 : decode cX4_init 32 = .ok (.bipush 60, 2) := by decide +kernel
theorem dX4_init_34 : decode cX4_init 34 = .ok (.iastore, 1) := by decide +kernel
theorem dX4_init_35 : decode cX4_init 35 = .ok (.dup, 1) := by decide +kernel
theorem dX4_init_36 : decode cX4_init 36 = .ok (.iconst 1, 1) := by decide +kernel
theorem dX4_init_37 : decode cX4_init 37 = .ok (.iconst 1, 1) := by decide +kernel
theorem dX4_init_38 : decode cX4_init 38 = .ok (.iastore, 1) := by decide +kernel
theorem dX4_init_39 : decode cX4_init 39 = .ok (.dup, 1) := by decide +kernel
theorem dX4_init_40 : decode cX4_init 40 = .ok (.iconst 2, 1) := by decide +kernel
theorem dX4_init_41 : decode cX4_init 41 = .ok (.iconst 1, 1) := by decide +kernel
theorem dX4_init_42 : decode cX4_init 42 = .ok (.iastore, 1) := by decide +kernel
theorem dX4_init_43 : decode cX4_init 43 = .ok (.putfield 25, 3) := by decide +kernel
theorem dX4_init_46 : decode cX4_init 46 = .ok (.aload_n 0, 1) := by decide +kernel
theorem dX4_init_47 : decode cX4_init 47 = .ok (.iconst (-1), 1) := by decide +kernel
theorem dX4_init_48 : decode cX4_init 48 = .ok (.putfield 29, 3) := by decide +kernel
theorem dX4_init_51 : decode cX4_init 51 = .ok (.aload_n 0, 1) := by decide +kernel
theorem dX4_init_52 : decode cX4_init 52 = .ok (.iconst 0, 1) := by decide +kernel
theorem dX4_init_53 : decode cX4_init 53 = .ok (.putfield 33, 3) := by decide +kernel
theorem dX4_init_56 : decode cX4_init 56 = .ok (.aload_n 0, 1) := by decide +kernel
theorem dX4_init_57 : decode cX4_init 57 = .ok (.iconst 0, 1) := by decide +kernel
theorem dX4_init_58 : decode cX4_init 58 = .ok (.putfield 36, 3) := by decide +kernel
theorem dX4_init_61 : decode cX4_init 61 = .ok (.aload_n 0, 1) := by decide +kernel
theorem dX4_init_62 : decode cX4_init 62 = .ok (.iconst 0, 1) := by decide +kernel
theorem dX4_init_63 : decode cX4_init 63 = .ok (.putfield 39, 3) := by decide +kernel
theorem dX4_init_66 : decode cX4_init 66 = .ok (.aload_n 0, 1) := by decide +kernel
theorem dX4_init_67 : decode cX4_init 67 = .ok (.iconst 0, 1) := by decide +kernel
theorem dX4_init_68 : decode cX4_init 68 = .ok (.putfield 42, 3) := by decide +kernel
theorem dX4_init_71 : decode cX4_init 71 = .ok (.aload_n 0, 1) := by decide +kernel
theorem dX4_init_72 : decode cX4_init 72 = .ok (.iconst 0, 1) := by decide +kernel
theorem dX4_init_73 : decode cX4_init 73 = .ok (.putfield 45, 3) := by decide +kernel
theorem dX4_init_76 : decode cX4_init 76 = .ok (.aload_n 0, 1) := by decide +kernel
theorem dX4_init_77 : decode cX4_init 77 = .ok (.iconst (-1), 1) := by decide +kernel
theorem dX4_init_78 : decode cX4_init 78 = .ok (.putfield 48, 3) := by decide +kernel
theorem dX4_init_81 : decode cX4_init 81 = .ok (.aload_n 0, 1) := by decide +kernel
theorem dX4_init_82 : decode cX4_init 82 = .ok (.iconst (-1), 1) := by decide +kernel
theorem dX4_init_83 : decode cX4_init 83 = .ok (.putfield 51, 3) := by decide +kernel
theorem dX4_init_86 : decode cX4_init 86 = .ok (.return_, 1) := by decide +kernel
set_option maxRecDepth 20000 in
theorem ggX4_copyFrom_X0_copyFrom : GoodIn wsX4_copyFrom wsX0_copyFrom := goodIn_r _ [16, 17, 18, 19, 39, 40, 41] (by decide +kernel) (by decide +kernel)
set_option maxRecDepth 20000 in
theorem gX4_copyFrom_X0_copyFrom : GoodIn wsX4_copyFrom (wsV RX4 54 RX0 yX0_copyFrom wsX0_copyFrom) := goodIn_app (goodIn_of _ (by decide +kernel)) ggX4_copyFrom_X0_copyFrom
set_option maxRecDepth 20000 in
theorem ggX4_copyFrom_X2_copyFrom : GoodIn wsX4_copyFrom wsX2_copyFrom := goodIn_r _ [24, 25, 26, 27, 42, 43, 44] (by decide +kernel) (by decide +kernel)
set_option maxRecDepth 20000 in
theorem gX4_copyFrom_X2_copyFrom : GoodIn wsX4_copyFrom (wsV RX4 58 RX2 yX2_copyFrom wsX2_copyFrom) := goodIn_app (goodIn_of _ (by decide +kernel)) ggX4_copyFrom_X2_copyFrom
theorem dX4_copyFrom_0 : decode cX4_copyFrom 0 = .ok (.aload_n 0, 1) := by decide +kernel
theorem dX4_copyFrom_1 : decode cX4_copyFrom 1 = .ok (.getfield 12, 3) := by decide +kernel
theorem dX4_copyFrom_4 : decode cX4_copyFrom 4 = .ok (.aload_n 1, 1) := by decide +kernel
theorem dX4_copyFrom_5 : decode cX4_copyFrom 5 = .ok (.getfield 12, 3) := by decide +kernel
theorem dX4_copyFrom_8 : decode cX4_copyFrom 8 = .ok (.invokevirtual 54, 3) := by decide +kernel
theorem dX4_copyFrom_11 : decode cX4_copyFrom 11 = .ok (.aload_n 0, 1) := by decide +kernel
theorem dX4_copyFrom_12 : decode cX4_copyFrom 12 = .ok (.getfield 21, 3) := by decide +kernel
theorem dX4_copyFrom_15 : decode cX4_copyFrom 15 = .ok (.aload_n 1, 1) := by decide +kernel
theorem dX4_copyFrom_16 : decode cX4_copyFrom 16 = .ok (.getfield 21, 3) := by decide +kernel
theorem dX4_copyFrom_19 : decode cX4_copyFrom 19 = .ok (.invokevirtual 58, 3) := by decide +kernel
theorem dX4_copyFrom_22 : decode cX4_copyFrom 22 = .ok (.iconst 0, 1) := by decide +kernel
theorem dX4_copyFrom_23 : decode cX4_copyFrom 23 = .ok (.istore_n 2, 1) := by decide +kernel
theorem dX4_copyFrom_24 : decode cX4_copyFrom 24 = .ok (.iload_n 2, 1) := by decide +kernel
theorem dX4_copyFrom_25 : decode cX4_copyFrom 25 = .ok (.aload_n 0, 1) := by decide +kernel
theorem dX4_copyFrom_26 : decode cX4_copyFrom 26 = .ok (.getfield 25, 3) := by decide +kernel
theorem dX4_copyFrom_29 : decode cX4_copyFrom 29 = .ok (.arraylength, 1) := by decide +kernel
theorem dX4_copyFrom_30 : decode cX4_copyFrom 30 = .ok (.if_icmp .ge 30, 3) := by decide +kernel
theorem dX4_copyFrom_33 : decode cX4_copyFrom 33 = .ok (.iload_n 2, 1) := by decide +kernel
theorem dX4_copyFrom_34 : decode cX4_copyFrom 34 = .ok (.aload_n 1, 1) := by decide +kernel
theorem dX4_copyFrom_35 : decode cX4_copyFrom 35 = .ok (.getfield 25, 3) := by decide +kernel
theorem dX4_copyFrom_38 : decode cX4_copyFrom 38 = .ok (.arraylength, 1) := by decide +kernel
theorem dX4_copyFrom_39 : decode cX4_copyFrom 39 = .ok (.if_icmp .ge 21, 3) := by decide +kernel
theorem dX4_copyFrom_42 : decode cX4_copyFrom 42 = .ok (.aload_n 0, 1) := by decide +kernel
theorem dX4_copyFrom_43 : decode cX4_copyFrom 43 = .ok (.getfield 25, 3) := by decide +kernel
theorem dX4_copyFrom_46 : decode cX4_copyFrom 46 = .ok (.iload_n 2, 1) := by decide +kernel
theorem dX4_copyFrom_47 : decode cX4_copyFrom 47 = .ok (.aload_n 1, 1) := by decide +kernel
theorem dX4_copyFrom_48 : decode cX4_copyFrom 48 = .ok (.getfield 25, 3) := by decide +kernel
theorem dX4_copyFrom_51 : decode cX4_copyFrom 51 = .ok (.iload_n 2, 1) := by decide +kernel
theorem dX4_copyFrom_52 : decode cX4_copyFrom 52 = .ok (.iaload, 1) := by decide +kernel
theorem dX4_copyFrom_53 : decode cX4_copyFrom 53 = .ok (.iastore, 1) := by decide +kernel
theorem dX4_copyFrom_54 : decode cX4_copyFrom 54 = .ok (.iinc 2 1, 3) := by decide +kernel
theorem dX4_copyFrom_57 : decode cX4_copyFrom 57 = .ok (.goto (-33), 3) := by decide +kernel
theorem dX4_copyFrom_60 : decode cX4_copyFrom 60 = .ok (.aload_n 0, 1) := by decide +kernel
theorem dX4_copyFrom_61 : decode cX4_copyFrom 61 = .ok (.aload_n 1, 1) := by decide +kernel
theorem dX4_copyFrom_62 : decode cX4_copyFrom 62 = .ok (.getfield 29, 3) := by decide +kernel
theorem dX4_copyFrom_65 : decode cX4_copyFrom 65 = .ok (.putfield 29, 3) := by decide +kernel
theorem dX4_copyFrom_68 : decode cX4_copyFrom 68 = .ok (.aload_n 0, 1) := by decide +kernel
theorem dX4_copyFrom_69 : decode cX4_copyFrom 69 = .ok (.aload_n 1, 1) := by decide +kernel
theorem dX4_copyFrom_70 : decode cX4_copyFrom 70 = .ok (.getfield 33, 3) := by decide +kernel
theorem dX4_copyFrom_73 : decode cX4_copyFrom 73 = .ok (.putfield 33, 3) := by decide +kernel
theorem dX4_copyFrom_76 : decode cX4_copyFrom 76 = .ok (.aload_n 0, 1) := by decide +kernel
theorem dX4_copyFrom_77 : decode cX4_copyFrom 77 = .ok (.aload_n 1, 1) := by decide +kernel
theorem dX4_copyFrom_78 : decode cX4_copyFrom 78 = .ok (.getfield 36, 3) := by decide +kernel
theorem dX4_copyFrom_81 : decode cX4_copyFrom 81 = .ok (.putfield 36, 3) := by decide +kernel
theorem dX4_copyFrom_84 : decode cX4_copyFrom 84 = .ok (.aload_n 0, 1) := by decide +kernel
theorem dX4_copyFrom_85 : decode cX4_copyFrom 85 = .ok (.aload_n 1, 1) := by decide +kernel
theorem dX4_copyFrom_86 : decode cX4_copyFrom 86 = .ok (.getfield 39, 3) := by decide +kernel
theorem dX4_copyFrom_89 : decode cX4_copyFrom 89 = .ok (.putfield 39, 3) := by decide +kernel
theorem dX4_copyFrom_92 : decode cX4_copyFrom 92 = .ok (.aload_n 0, 1) := by decide +kernel
theorem dX4_copyFrom_93 : decode cX4_copyFrom 93 = .ok (.aload_n 1, 1) := by decide +kernel
theorem dX4_copyFrom_94 : decode cX4_copyFrom 94 = .ok (.getfield 42, 3) := by decide +kernel
theorem dX4_copyFrom_97 : decode cX4_copyFrom 97 = .ok (.putfield 42, 3) := by decide +kernel
theorem dX4_copyFrom_100 : decode cX4_copyFrom 100 = .ok (.aload_n 0, 1) := by decide +kernel
theorem dX4_copyFrom_101 : decode cX4_copyFrom 101 = .ok (.aload_n 1, 1) := by decide +kernel
theorem dX4_copyFrom_102 : decode cX4_copyFrom 102 = .ok (.getfield 45, 3) := by decide +kernel
theorem dX4_copyFrom_105 : decode cX4_copyFrom 105 = .ok (.putfield 45, 3) := by decide +kernel
theorem dX4_copyFrom_108 : decode cX4_copyFrom 108 = .ok (.aload_n 0, 1) := by decide +kernel
theorem dX4_copyFrom_109 : decode cX4_copyFrom 109 = .ok (.aload_n 1, 1) := by decide +kernel
theorem dX4_copyFrom_110 : decode cX4_copyFrom 110 = .ok (.getfield 48, 3) := by decide +kernel
theorem dX4_copyFrom_113 : decode cX4_copyFrom 113 = .ok (.putfield 48, 3) := by decide +kernel
theorem dX4_copyFrom_116 : decode cX4_copyFrom 116 = .ok (.aload_n 0, 1) := by decide +kernel
theorem dX4_copyFrom_117 : decode cX4_copyFrom 117 = .ok (.aload_n 1, 1) := by decide +kernel
theorem dX4_copyFrom_118 : decode cX4_copyFrom 118 = .ok (.getfield 51, 3) := by decide +kernel
theorem dX4_copyFrom_121 : decode cX4_copyFrom 121 = .ok (.putfield 51, 3) := by decide +kernel
theorem dX4_copyFrom_124 : decode cX4_copyFrom 124 = .ok (.return_, 1) := by decide +kernel
theorem dX4_settingAt_0 : decode cX4_settingAt 0 = .ok (.iload_n 1, 1) := by decide +kernel
theorem dX4_settingAt_1 : decode cX4_settingAt 1 = .ok (.ifCond .lt 21, 3) := by decide +kernel
theorem dX4_settingAt_4 : decode cX4_settingAt 4 = .ok (.iload_n 1, 1) := by decide +kernel
theorem dX4_settingAt_5 : decode cX4_settingAt 5 = .ok (.aload_n 0, 1) := by decide +kernel
theorem dX4_settingAt_6 : decode cX4_settingAt 6 = .ok (.getfield 25, 3) := by decide +kernel
theorem dX4_settingAt_9 : decode cX4_settingAt 9 = .ok (.arraylength, 1) := by decide +kernel
theorem dX4_settingAt_10 : decode cX4_settingAt 10 = .ok (.if_icmp .ge 12, 3) := by decide +kernel
theorem dX4_settingAt_13 : decode cX4_settingAt 13 = .ok (.aload_n 0, 1) := by decide +kernel
theorem dX4_settingAt_14 : decode cX4_settingAt 14 = .ok (.getfield 25, 3) := by decide +kernel
theorem dX4_settingAt_17 : decode cX4_settingAt 17 = .ok (.iload_n 1, 1) := by decide +kernel
theorem dX4_settingAt_18 : decode cX4_settingAt 18 = .ok (.iaload, 1) := by decide +kernel
theorem dX4_settingAt_19 : decode cX4_settingAt 19 = .ok (.goto 4, 3) := by decide +kernel
theorem dX4_settingAt_22 : decode cX4_settingAt 22 = .ok (.iconst (-1), 1) := by decide +kernel
theorem dX4_settingAt_23 : decode cX4_settingAt 23 = .ok (.ireturn, 1) := by decide +kernel
set_option maxRecDepth 20000 in
theorem ggX4_changeSetting_X4_settingAt : GoodIn wsX4_changeSetting wsX4_settingAt := goodIn_r _ [7, 2, 8, 9, 10, 11, 12, 13, 14, 15, 16, 17, 18] (by decide +kernel) (by decide +kernel)
set_option maxRecDepth 20000 in
theorem gX4_changeSetting_X4_settingAt : GoodIn wsX4_changeSetting (wsV RX4 61 RX4 yX4_settingAt wsX4_settingAt) := goodIn_app (goodIn_of _ (by decide +kernel)) ggX4_changeSetting_X4_settingAt
theorem dX4_changeSetting_0 : decode cX4_changeSetting 0 = .ok (.aload_n 0, 1) := by decide +kernel
theorem dX4_changeSetting_1 : decode cX4_changeSetting 1 = .ok (.iload_n 1, 1) := by decide +kernel
theorem dX4_changeSetting_2 : decode cX4_changeSetting 2 = .ok (.invokevirtual 61, 3) := by decide +kernel
theorem dX4_changeSetting_5 : decode cX4_changeSetting 5 = .ok (.istore_n 3, 1) := by decide +kernel
theorem dX4_changeSetting_6 : decode cX4_changeSetting 6 = .ok (.aload_n 0, 1) := by decide +kernel
theorem dX4_changeSetting_7 : decode cX4_changeSetting 7 = .ok (.iconst (-1), 1) := by decide +kernel
theorem dX4_changeSetting_8 : decode cX4_changeSetting 8 = .ok (.putfield 29, 3) := by decide +kernel
theorem dX4_changeSetting_11 : decode cX4_changeSetting 11 = .ok (.iload_n 1, 1) := by decide +kernel
theorem dX4_changeSetting_12 : decode cX4_changeSetting 12 = .ok (.ifCond .lt 19, 3) := by decide +kernel
theorem dX4_changeSetting_15 : decode cX4_changeSetting 15 = .ok (.iload_n 1, 1) := by decide +kernel
theorem dX4_changeSetting_16 : decode cX4_changeSetting 16 = .ok (.aload_n 0, 1) := by decide +kernel
theorem dX4_changeSetting_17 : decode cX4_changeSetting 17 = .ok (.getfield 25, 3) := by decide +kernel
theorem dX4_changeSetting_20 : decode cX4_changeSetting 20 = .ok (.arraylength, 1) := by decide +kernel
theorem dX4_changeSetting_21 : decode cX4_changeSetting 21 = .ok (.if_icmp .ge 10, 3) := by decide +kernel
theorem dX4_changeSetting_24 : decode cX4_changeSetting 24 = .ok (.aload_n 0, 1) := by decide +kernel
theorem dX4_changeSetting_25 : decode cX4_changeSetting 25 = .ok (.getfield 25, 3) := by decide +kernel
theorem dX4_changeSetting_28 : decode cX4_changeSetting 28 = .ok (.iload_n 1, 1) := by decide +kernel
theorem dX4_changeSetting_29 : decode cX4_changeSetting 29 = .ok (.iload_n 2, 1) := by decide +kernel
theorem dX4_changeSetting_30 : decode cX4_changeSetting 30 = .ok (.iastore, 1) := by decide +kernel
theorem dX4_changeSetting_31 : decode cX4_changeSetting 31 = .ok (.iload_n 3, 1) := by decide +kernel
theorem dX4_changeSetting_32 : decode cX4_changeSetting 32 = .ok (.ireturn, 1) := by decide +kernel
set_option maxRecDepth 20000 in
theorem ggX4_whyNotSet_X0_typeAt : GoodIn wsX4_whyNotSet wsX0_typeAt := goodIn_r _ [7, 8, 9, 41, 42, 43] (by decide +kernel) (by decide +kernel)
set_option maxRecDepth 20000 in
theorem gX4_whyNotSet_X0_typeAt : GoodIn wsX4_whyNotSet (wsV RX4 65 RX0 yX0_typeAt wsX0_typeAt) := goodIn_app (goodIn_of _ (by decide +kernel)) ggX4_whyNotSet_X0_typeAt
set_option maxRecDepth 20000 in
theorem ggX4_whyNotSet_X2_nextPosition : GoodIn wsX4_whyNotSet wsX2_nextPosition := goodIn_r _ [14, 15, 16, 17, 18, 13, 19, 20, 21, 22, 23, 44, 45, 46] (by decide +kernel) (by decide +kernel)
set_option maxRecDepth 20000 in
theorem gX4_whyNotSet_X2_nextPosition : GoodIn wsX4_whyNotSet (wsV RX4 69 RX2 yX2_nextPosition wsX2_nextPosition) := goodIn_app (goodIn_of _ (by decide +kernel)) ggX4_whyNotSet_X2_nextPosition
set_option maxRecDepth 20000 in
theorem ggX4_whyNotSet_X6_widthOf : GoodIn wsX4_whyNotSet wsX6_widthOf := goodIn_r _ [23] (by decide +kernel) (by decide +kernel)
set_option maxRecDepth 20000 in
theorem gX4_whyNotSet_X6_widthOf_n73 : GoodIn wsX4_whyNotSet (wsX6_widthOf) := ggX4_whyNotSet_X6_widthOf
set_option maxRecDepth 20000 in
theorem ggX4_whyNotSet_X4_settingAt : GoodIn wsX4_whyNotSet wsX4_settingAt := goodIn_r _ [28, 29, 30, 31, 32, 33, 34, 35, 36, 37, 38, 39, 40] (by decide +kernel) (by decide +kernel)
set_option maxRecDepth 20000 in
theorem gX4_whyNotSet_X4_settingAt : GoodIn wsX4_whyNotSet (wsV RX4 61 RX4 yX4_settingAt wsX4_settingAt) := goodIn_app (goodIn_of _ (by decide +kernel)) ggX4_whyNotSet_X4_settingAt
theorem dX4_whyNotSet_0 : decode cX4_whyNotSet 0 = .ok (.aload_n 0, 1) := by decide +kernel
theorem dX4_whyNotSet_1 : decode cX4_whyNotSet 1 = .ok (.getfield 12, 3) := by decide +kernel
theorem dX4_whyNotSet_4 : decode cX4_whyNotSet 4 = .ok (.iload_n 1, 1) := by decide +kernel
theorem dX4_whyNotSet_5 : decode cX4_whyNotSet 5 = .ok (.iconst 0, 1) := by decide +kernel
theorem dX4_whyNotSet_6 : decode cX4_whyNotSet 6 = .ok (.invokevirtual 65, 3) := by decide +kernel
theorem dX4_whyNotSet_9 : decode cX4_whyNotSet 9 = .ok (.istore_n 2, 1) := by decide +kernel
theorem dX4_whyNotSet_10 : decode cX4_whyNotSet 10 = .ok (.iload_n 2, 1) := by decide +kernel
theorem dX4_whyNotSet_11 : decode cX4_whyNotSet 11 = .ok (.iconst (-1), 1) := by decide +kernel
theorem dX4_whyNotSet_12 : decode cX4_whyNotSet 12 = .ok (.if_icmp .ne 5, 3) := by decide +kernel
theorem dX4_whyNotSet_15 : decode cX4_whyNotSet 15 = .ok (.iconst 1, 1) := by decide +kernel
theorem dX4_whyNotSet_16 : decode cX4_whyNotSet 16 = .ok (.ireturn, 1) := by decide +kernel
theorem dX4_whyNotSet_17 : decode cX4_whyNotSet 17 = .ok (.aload_n 0, 1) := by decide +kernel
theorem dX4_whyNotSet_18 : decode cX4_whyNotSet 18 = .ok (.getfield 21, 3) := by decide +kernel
theorem dX4_whyNotSet_21 : decode cX4_whyNotSet 21 = .ok (.invokevirtual 69, 3) := by decide +kernel
theorem dX4_whyNotSet_24 : decode cX4_whyNotSet 24 = .ok (.iload_n 2, 1) := by decide +kernel
theorem dX4_whyNotSet_25 : decode cX4_whyNotSet 25 = .ok (.invokestatic 73, 3) := by decide +kernel
theorem dX4_whyNotSet_28 : decode cX4_whyNotSet 28 = .ok (.iadd, 1) := by decide +kernel
theorem dX4_whyNotSet_29 : decode cX4_whyNotSet 29 = .ok (.istore_n 3, 1) := by decide +kernel
theorem dX4_whyNotSet_30 : decode cX4_whyNotSet 30 = .ok (.iload_n 3, 1) := by decide +kernel
theorem dX4_whyNotSet_31 : decode cX4_whyNotSet 31 = .ok (.aload_n 0, 1) := by decide +kernel
theorem dX4_whyNotSet_32 : decode cX4_whyNotSet 32 = .ok (.iconst 0, 1) := by decide +kernel
theorem dX4_whyNotSet_33 : decode cX4_whyNotSet 33 = .ok (.invokevirtual 61, 3) := by decide +kernel
theorem dX4_whyNotSet_36 : decode cX4_whyNotSet 36 = .ok (.if_icmp .le 7, 3) := by decide +kernel
theorem dX4_whyNotSet_39 : decode cX4_whyNotSet 39 = .ok (.iconst 2, 1) := by decide +kernel
theorem dX4_whyNotSet_40 : decode cX4_whyNotSet 40 = .ok (.goto 4, 3) := by decide +kernel
theorem dX4_whyNotSet_43 : decode cX4_whyNotSet 43 = .ok (.iconst 0, 1) := by decide +kernel
theorem dX4_whyNotSet_44 : decode cX4_whyNotSet 44 = .ok (.ireturn, 1) := by decide +kernel
set_option maxRecDepth 20000 in
theorem ggX4_setLetter_X0_typeAt : GoodIn wsX4_setLetter wsX0_typeAt := goodIn_r _ [9, 10, 11, 62, 63, 64] (by decide +kernel) (by decide +kernel)
set_option maxRecDepth 20000 in
theorem gX4_setLetter_X0_typeAt : GoodIn wsX4_setLetter (wsV RX4 65 RX0 yX0_typeAt wsX0_typeAt) := goodIn_app (goodIn_of _ (by decide +kernel)) ggX4_setLetter_X0_typeAt
set_option maxRecDepth 20000 in
theorem ggX4_setLetter_X0_dropUpmost : GoodIn wsX4_setLetter wsX0_dropUpmost := goodIn_r _ [15, 10, 62, 63, 64] (by decide +kernel) (by decide +kernel)
set_option maxRecDepth 20000 in
theorem gX4_setLetter_X0_dropUpmost : GoodIn wsX4_setLetter (wsV RX4 76 RX0 yX0_dropUpmost wsX0_dropUpmost) := goodIn_app (goodIn_of _ (by decide +kernel)) ggX4_setLetter_X0_dropUpmost
set_option maxRecDepth 20000 in
theorem ggX4_setLetter_X2_add : GoodIn wsX4_setLetter wsX2_add := goodIn_r _ [20, 21, 22, 23, 65, 66, 67] (by decide +kernel) (by decide +kernel)
set_option maxRecDepth 20000 in
theorem gX4_setLetter_X2_add : GoodIn wsX4_setLetter (wsV RX4 80 RX2 yX2_add wsX2_add) := goodIn_app (goodIn_of _ (by decide +kernel)) ggX4_setLetter_X2_add
set_option maxRecDepth 20000 in
theorem ggX4_setLetter_X4_settingAt : GoodIn wsX4_setLetter wsX4_settingAt := goodIn_r _ [28, 29, 51, 52, 53, 54, 55, 56, 57, 58, 59, 60, 61] (by decide +kernel) (by decide +kernel)
set_option maxRecDepth 20000 in
theorem gX4_setLetter_X4_settingAt : GoodIn wsX4_setLetter (wsV RX4 61 RX4 yX4_settingAt wsX4_settingAt) := goodIn_app (goodIn_of _ (by decide +kernel)) ggX4_setLetter_X4_settingAt
set_option maxRecDepth 20000 in
theorem ggX4_setLetter_X4_passBeats : GoodIn wsX4_setLetter wsX4_passBeats := goodIn_r _ [33, 1, 4, 34, 35, 36, 37, 38, 8, 39, 40, 41, 6, 7, 9, 10, 11, 42, 43, 44, 45, 46, 13, 14, 15, 47, 48, 49, 50, 51, 52, 53, 54, 55, 56, 57, 58, 59, 60, 61, 62, 63, 64] (by decide +kernel) (by decide +kernel)
set_option maxRecDepth 20000 in
theorem gX4_setLetter_X4_passBeats : GoodIn wsX4_setLetter (wsV RX4 84 RX4 yX4_passBeats wsX4_passBeats) := goodIn_app (goodIn_of _ (by decide +kernel)) ggX4_setLetter_X4_passBeats
theorem dX4_setLetter_0 : decode cX4_setLetter 0 = .ok (.aload_n 0, 1) := by decide +kernel
theorem dX4_setLetter_1 : decode cX4_setLetter 1 = .ok (.getfield 12, 3) := by decide +kernel
theorem dX4_setLetter_4 : decode cX4_setLetter 4 = .ok (.iload_n 1, 1) := by decide +kernel
theorem dX4_setLetter_5 : decode cX4_setLetter 5 = .ok (.iconst 0, 1) := by decide +kernel
theorem dX4_setLetter_6 : decode cX4_setLetter 6 = .ok (.invokevirtual 65, 3) := by decide +kernel
theorem dX4_setLetter_9 : decode cX4_setLetter 9 = .ok (.istore_n 2, 1) := by decide +kernel
theorem dX4_setLetter_10 : decode cX4_setLetter 10 = .ok (.aload_n 0, 1) := by decide +kernel
theorem dX4_setLetter_11 : decode cX4_setLetter 11 = .ok (.getfield 12, 3) := by decide +kernel
theorem dX4_setLetter_14 : decode cX4_setLetter 14 = .ok (.iload_n 1, 1) := by decide +kernel
theorem dX4_setLetter_15 : decode cX4_setLetter 15 = .ok (.invokevirtual 76, 3) := by decide +kernel
theorem dX4_setLetter_18 : decode cX4_setLetter 18 = .ok (.aload_n 0, 1) := by decide +kernel
theorem dX4_setLetter_19 : decode cX4_setLetter 19 = .ok (.getfield 21, 3) := by decide +kernel
theorem dX4_setLetter_22 : decode cX4_setLetter 22 = .ok (.iload_n 2, 1) := by decide +kernel
theorem dX4_setLetter_23 : decode cX4_setLetter 23 = .ok (.iload_n 1, 1) := by decide +kernel
theorem dX4_setLetter_24 : decode cX4_setLetter 24 = .ok (.invokevirtual 80, 3) := by decide +kernel
theorem dX4_setLetter_27 : decode cX4_setLetter 27 = .ok (.aload_n 0, 1) := by decide +kernel
theorem dX4_setLetter_28 : decode cX4_setLetter 28 = .ok (.dup, 1) := by decide +kernel
theorem dX4_setLetter_29 : decode cX4_setLetter 29 = .ok (.getfield 33, 3) := by decide +kernel
theorem dX4_setLetter_32 : decode cX4_setLetter 32 = .ok (.iconst 1, 1) := by decide +kernel
theorem dX4_setLetter_33 : decode cX4_setLetter 33 = .ok (.iadd, 1) := by decide +kernel
theorem dX4_setLetter_34 : decode cX4_setLetter 34 = .ok (.putfield 33, 3) := by decide +kernel
theorem dX4_setLetter_37 : decode cX4_setLetter 37 = .ok (.aload_n 0, 1) := by decide +kernel
theorem dX4_setLetter_38 : decode cX4_setLetter 38 = .ok (.iload_n 1, 1) := by decide +kernel
theorem dX4_setLetter_39 : decode cX4_setLetter 39 = .ok (.putfield 29, 3) := by decide +kernel
theorem dX4_setLetter_42 : decode cX4_setLetter 42 = .ok (.aload_n 0, 1) := by decide +kernel
theorem dX4_setLetter_43 : decode cX4_setLetter 43 = .ok (.aload_n 0, 1) := by decide +kernel
theorem dX4_setLetter_44 : decode cX4_setLetter 44 = .ok (.iconst 1, 1) := by decide +kernel
theorem dX4_setLetter_45 : decode cX4_setLetter 45 = .ok (.invokevirtual 61, 3) := by decide +kernel
theorem dX4_setLetter_48 : decode cX4_setLetter 48 = .ok (.invokevirtual 84, 3) := by decide +kernel
theorem dX4_setLetter_51 : decode cX4_setLetter 51 = .ok (.pop, 1) := by decide +kernel
theorem dX4_setLetter_52 : decode cX4_setLetter 52 = .ok (.iload_n 2, 1) := by decide +kernel
theorem dX4_setLetter_53 : decode cX4_setLetter 53 = .ok (.ireturn, 1) := by decide +kernel
set_option maxRecDepth 20000 in
theorem ggX4_rest_X4_passBeats : GoodIn wsX4_rest wsX4_passBeats := goodIn_r _ [6, 7, 1, 8, 9, 10, 11, 12, 13, 14, 15, 16, 17, 18, 19, 20, 21, 22, 23, 24, 25, 26, 27, 28, 29, 30, 31, 32, 33, 34, 35, 36, 37, 38, 39, 40, 41, 42, 43, 44, 45, 46, 47] (by decide +kernel) (by decide +kernel)
set_option maxRecDepth 20000 in
theorem gX4_rest_X4_passBeats : GoodIn wsX4_rest (wsV RX4 84 RX4 yX4_passBeats wsX4_passBeats) := goodIn_app (goodIn_of _ (by decide +kernel)) ggX4_rest_X4_passBeats
theorem dX4_rest_0 : decode cX4_rest 0 = .ok (.aload_n 0, 1) := by decide +kernel
theorem dX4_rest_1 : decode cX4_rest 1 = .ok (.iconst (-1), 1) := by decide +kernel
theorem dX4_rest_2 : decode cX4_rest 2 = .ok (.putfield 29, 3) := by decide +kernel
theorem dX4_rest_5 : decode cX4_rest 5 = .ok (.aload_n 0, 1) := by decide +kernel
theorem dX4_rest_6 : decode cX4_rest 6 = .ok (.iload_n 1, 1) := by decide +kernel
theorem dX4_rest_7 : decode cX4_rest 7 = .ok (.invokevirtual 84, 3) := by decide +kernel
theorem dX4_rest_10 : decode cX4_rest 10 = .ok (.ireturn, 1) := by decide +kernel
set_option maxRecDepth 20000 in
theorem ggX4_passBeats_X0_sortInOneBeat : GoodIn wsX4_passBeats wsX0_sortInOneBeat := goodIn_r _ [9, 10, 11, 12, 13, 8, 14, 15, 16, 17, 18, 19, 20, 21, 22, 23, 24, 25, 26, 27, 28, 40, 41, 42] (by decide +kernel) (by decide +kernel)
set_option maxRecDepth 20000 in
theorem gX4_passBeats_X0_sortInOneBeat : GoodIn wsX4_passBeats (wsV RX4 87 RX0 yX0_sortInOneBeat wsX0_sortInOneBeat) := goodIn_app (goodIn_of _ (by decide +kernel)) ggX4_passBeats_X0_sortInOneBeat
theorem dX4_passBeats_0 : decode cX4_passBeats 0 = .ok (.iconst 0, 1) := by decide +kernel
theorem dX4_passBeats_1 : decode cX4_passBeats 1 = .ok (.istore_n 2, 1) := by decide +kernel
theorem dX4_passBeats_2 : decode cX4_passBeats 2 = .ok (.iconst 0, 1) := by decide +kernel
theorem dX4_passBeats_3 : decode cX4_passBeats 3 = .ok (.istore_n 3, 1) := by decide +kernel
theorem dX4_passBeats_4 : decode cX4_passBeats 4 = .ok (.iload_n 3, 1) := by decide +kernel
theorem dX4_passBeats_5 : decode cX4_passBeats 5 = .ok (.iload_n 1, 1) := by decide +kernel
theorem dX4_passBeats_6 : decode cX4_passBeats 6 = .ok (.if_icmp .ge 36, 3) := by decide +kernel
theorem dX4_passBeats_9 : decode cX4_passBeats 9 = .ok (.aload_n 0, 1) := by decide +kernel
theorem dX4_passBeats_10 : decode cX4_passBeats 10 = .ok (.getfield 12, 3) := by decide +kernel
theorem dX4_passBeats_13 : decode cX4_passBeats 13 = .ok (.aload_n 0, 1) := by decide +kernel
theorem dX4_passBeats_14 : decode cX4_passBeats 14 = .ok (.getfield 29, 3) := by decide +kernel
theorem dX4_passBeats_17 : decode cX4_passBeats 17 = .ok (.invokevirtual 87, 3) := by decide +kernel
theorem dX4_passBeats_20 : decode cX4_passBeats 20 = .ok (.ifCond .eq 6, 3) := by decide +kernel
theorem dX4_passBeats_23 : decode cX4_passBeats 23 = .ok (.iinc 2 1, 3) := by decide +kernel
theorem dX4_passBeats_26 : decode cX4_passBeats 26 = .ok (.aload_n 0, 1) := by decide +kernel
theorem dX4_passBeats_27 : decode cX4_passBeats 27 = .ok (.dup, 1) := by decide +kernel
theorem dX4_passBeats_28 : decode cX4_passBeats 28 = .ok (.getfield 39, 3) := by decide +kernel
theorem dX4_passBeats_31 : decode cX4_passBeats 31 = .ok (.iconst 1, 1) := by decide +kernel
theorem dX4_passBeats_32 : decode cX4_passBeats 32 = .ok (.iadd, 1) := by decide +kernel
theorem dX4_passBeats_33 : decode cX4_passBeats 33 = .ok (.putfield 39, 3) := by decide +kernel
theorem dX4_passBeats_36 : decode cX4_passBeats 36 = .ok (.iinc 3 1, 3) := by decide +kernel
theorem dX4_passBeats_39 : decode cX4_passBeats 39 = .ok (.goto (-35), 3) := by decide +kernel
theorem dX4_passBeats_42 : decode cX4_passBeats 42 = .ok (.aload_n 0, 1) := by decide +kernel
theorem dX4_passBeats_43 : decode cX4_passBeats 43 = .ok (.dup, 1) := by decide +kernel
theorem dX4_passBeats_44 : decode cX4_passBeats 44 = .ok (.getfield 36, 3) := by decide +kernel
theorem dX4_passBeats_47 : decode cX4_passBeats 47 = .ok (.iload_n 2, 1) := by decide +kernel
theorem dX4_passBeats_48 : decode cX4_passBeats 48 = .ok (.iadd, 1) := by decide +kernel
theorem dX4_passBeats_49 : decode cX4_passBeats 49 = .ok (.putfield 36, 3) := by decide +kernel
theorem dX4_passBeats_52 : decode cX4_passBeats 52 = .ok (.iload_n 2, 1) := by decide +kernel
theorem dX4_passBeats_53 : decode cX4_passBeats 53 = .ok (.ireturn, 1) := by decide +kernel
set_option maxRecDepth 20000 in
theorem ggX4_boxBehind_X4_settingAt : GoodIn wsX4_boxBehind wsX4_settingAt := goodIn_r _ [6, 7, 20, 21, 22, 23, 24, 25, 26, 27, 28, 29, 30] (by decide +kernel) (by decide +kernel)
set_option maxRecDepth 20000 in
theorem gX4_boxBehind_X4_settingAt : GoodIn wsX4_boxBehind (wsV RX4 61 RX4 yX4_settingAt wsX4_settingAt) := goodIn_app (goodIn_of _ (by decide +kernel)) ggX4_boxBehind_X4_settingAt
set_option maxRecDepth 20000 in
theorem ggX4_boxBehind_X2_letterAt : GoodIn wsX4_boxBehind wsX2_letterAt := goodIn_r _ [12, 13, 14, 31, 32, 33] (by decide +kernel) (by decide +kernel)
set_option maxRecDepth 20000 in
theorem gX4_boxBehind_X2_letterAt : GoodIn wsX4_boxBehind (wsV RX4 91 RX2 yX2_letterAt wsX2_letterAt) := goodIn_app (goodIn_of _ (by decide +kernel)) ggX4_boxBehind_X2_letterAt
set_option maxRecDepth 20000 in
theorem ggX4_boxBehind_X2_sortAt : GoodIn wsX4_boxBehind wsX2_sortAt := goodIn_r _ [18, 13, 19, 31, 32, 33] (by decide +kernel) (by decide +kernel)
set_option maxRecDepth 20000 in
theorem gX4_boxBehind_X2_sortAt : GoodIn wsX4_boxBehind (wsV RX4 94 RX2 yX2_sortAt wsX2_sortAt) := goodIn_app (goodIn_of _ (by decide +kernel)) ggX4_boxBehind_X2_sortAt
theorem dX4_boxBehind_0 : decode cX4_boxBehind 0 = .ok (.aload_n 0, 1) := by decide +kernel
theorem dX4_boxBehind_1 : decode cX4_boxBehind 1 = .ok (.iconst 2, 1) := by decide +kernel
theorem dX4_boxBehind_2 : decode cX4_boxBehind 2 = .ok (.invokevirtual 61, 3) := by decide +kernel
theorem dX4_boxBehind_5 : decode cX4_boxBehind 5 = .ok (.iconst 1, 1) := by decide +kernel
theorem dX4_boxBehind_6 : decode cX4_boxBehind 6 = .ok (.if_icmp .ne 14, 3) := by decide +kernel
theorem dX4_boxBehind_9 : decode cX4_boxBehind 9 = .ok (.aload_n 0, 1) := by decide +kernel
theorem dX4_boxBehind_10 : decode cX4_boxBehind 10 = .ok (.getfield 21, 3) := by decide +kernel
theorem dX4_boxBehind_13 : decode cX4_boxBehind 13 = .ok (.iload_n 1, 1) := by decide +kernel
theorem dX4_boxBehind_14 : decode cX4_boxBehind 14 = .ok (.invokevirtual 91, 3) := by decide +kernel
theorem dX4_boxBehind_17 : decode cX4_boxBehind 17 = .ok (.goto 11, 3) := by decide +kernel
theorem dX4_boxBehind_20 : decode cX4_boxBehind 20 = .ok (.aload_n 0, 1) := by decide +kernel
theorem dX4_boxBehind_21 : decode cX4_boxBehind 21 = .ok (.getfield 21, 3) := by decide +kernel
theorem dX4_boxBehind_24 : decode cX4_boxBehind 24 = .ok (.iload_n 1, 1) := by decide +kernel
theorem dX4_boxBehind_25 : decode cX4_boxBehind 25 = .ok (.invokevirtual 94, 3) := by decide +kernel
theorem dX4_boxBehind_28 : decode cX4_boxBehind 28 = .ok (.ireturn, 1) := by decide +kernel
set_option maxRecDepth 20000 in
theorem ggX4_whyNotCorrect_X2_isWrongAt : GoodIn wsX4_whyNotCorrect wsX2_isWrongAt := goodIn_r _ [7, 8, 9, 10, 6, 11, 12, 13, 14, 15, 16, 17, 18, 61, 62, 63] (by decide +kernel) (by decide +kernel)
set_option maxRecDepth 20000 in
theorem gX4_whyNotCorrect_X2_isWrongAt : GoodIn wsX4_whyNotCorrect (wsV RX4 97 RX2 yX2_isWrongAt wsX2_isWrongAt) := goodIn_app (goodIn_of _ (by decide +kernel)) ggX4_whyNotCorrect_X2_isWrongAt
set_option maxRecDepth 20000 in
theorem ggX4_whyNotCorrect_X2_letterAt : GoodIn wsX4_whyNotCorrect wsX2_letterAt := goodIn_r _ [17, 12, 18, 61, 62, 63] (by decide +kernel) (by decide +kernel)
set_option maxRecDepth 20000 in
theorem gX4_whyNotCorrect_X2_letterAt : GoodIn wsX4_whyNotCorrect (wsV RX4 91 RX2 yX2_letterAt wsX2_letterAt) := goodIn_app (goodIn_of _ (by decide +kernel)) ggX4_whyNotCorrect_X2_letterAt
set_option maxRecDepth 20000 in
theorem ggX4_whyNotCorrect_X0_depthOfRight : GoodIn wsX4_whyNotCorrect wsX0_depthOfRight := goodIn_r _ [24, 25, 26, 27, 23, 28, 29, 30, 31, 32, 33, 34, 64, 65, 66] (by decide +kernel) (by decide +kernel)
set_option maxRecDepth 20000 in
theorem gX4_whyNotCorrect_X0_depthOfRight : GoodIn wsX4_whyNotCorrect (wsV RX4 100 RX0 yX0_depthOfRight wsX0_depthOfRight) := goodIn_app (goodIn_of _ (by decide +kernel)) ggX4_whyNotCorrect_X0_depthOfRight
set_option maxRecDepth 20000 in
theorem ggX4_whyNotCorrect_X4_boxBehind : GoodIn wsX4_whyNotCorrect wsX4_boxBehind := goodIn_r _ [39, 1, 40, 41, 42, 38, 43, 44, 19, 15, 16, 6, 17, 12, 18, 45, 9, 10, 11, 13, 50, 51, 52, 53, 54, 55, 56, 57, 58, 59, 60, 61, 62, 63] (by decide +kernel) (by decide +kernel)
set_option maxRecDepth 20000 in
theorem gX4_whyNotCorrect_X4_boxBehind : GoodIn wsX4_whyNotCorrect (wsV RX4 103 RX4 yX4_boxBehind wsX4_boxBehind) := goodIn_app (goodIn_of _ (by decide +kernel)) ggX4_whyNotCorrect_X4_boxBehind
set_option maxRecDepth 20000 in
theorem ggX4_whyNotCorrect_X0_hasRoom : GoodIn wsX4_whyNotCorrect wsX0_hasRoom := goodIn_r _ [49, 29, 64, 65, 66] (by decide +kernel) (by decide +kernel)
set_option maxRecDepth 20000 in
theorem gX4_whyNotCorrect_X0_hasRoom : GoodIn wsX4_whyNotCorrect (wsV RX4 106 RX0 yX0_hasRoom wsX0_hasRoom) := goodIn_app (goodIn_of _ (by decide +kernel)) ggX4_whyNotCorrect_X0_hasRoom
theorem dX4_whyNotCorrect_0 : decode cX4_whyNotCorrect 0 = .ok (.aload_n 0, 1) := by decide +kernel
theorem dX4_whyNotCorrect_1 : decode cX4_whyNotCorrect 1 = .ok (.getfield 21, 3) := by decide +kernel
theorem dX4_whyNotCorrect_4 : decode cX4_whyNotCorrect 4 = .ok (.iload_n 1, 1) := by decide +kernel
theorem dX4_whyNotCorrect_5 : decode cX4_whyNotCorrect 5 = .ok (.invokevirtual 97, 3) := by decide +kernel
theorem dX4_whyNotCorrect_8 : decode cX4_whyNotCorrect 8 = .ok (.ifCond .ne 5, 3) := by decide +kernel
theorem dX4_whyNotCorrect_11 : decode cX4_whyNotCorrect 11 = .ok (.iconst 3, 1) := by decide +kernel
theorem dX4_whyNotCorrect_12 : decode cX4_whyNotCorrect 12 = .ok (.ireturn, 1) := by decide +kernel
theorem dX4_whyNotCorrect_13 : decode cX4_whyNotCorrect 13 = .ok (.aload_n 0, 1) := by decide +kernel
theorem dX4_whyNotCorrect_14 : decode cX4_whyNotCorrect 14 = .ok (.getfield 12, 3) := by decide +kernel
theorem dX4_whyNotCorrect_17 : decode cX4_whyNotCorrect 17 = .ok (.aload_n 0, 1) := by decide +kernel
theorem dX4_whyNotCorrect_18 : decode cX4_whyNotCorrect 18 = .ok (.getfield 21, 3) := by decide +kernel
theorem dX4_whyNotCorrect_21 : decode cX4_whyNotCorrect 21 = .ok (.iload_n 1, 1) := by decide +kernel
theorem dX4_whyNotCorrect_22 : decode cX4_whyNotCorrect 22 = .ok (.invokevirtual 91, 3) := by decide +kernel
theorem dX4_whyNotCorrect_25 : decode cX4_whyNotCorrect 25 = .ok (.invokevirtual 100, 3) := by decide +kernel
theorem dX4_whyNotCorrect_28 : decode cX4_whyNotCorrect 28 = .ok (.iconst (-1), 1) := by decide +kernel
theorem dX4_whyNotCorrect_29 : decode cX4_whyNotCorrect 29 = .ok (.if_icmp .ne 5, 3) := by decide +kernel
theorem dX4_whyNotCorrect_32 : decode cX4_whyNotCorrect 32 = .ok (.iconst 4, 1) := by decide +kernel
theorem dX4_whyNotCorrect_33 : decode cX4_whyNotCorrect 33 = .ok (.ireturn, 1) := by decide +kernel
theorem dX4_whyNotCorrect_34 : decode cX4_whyNotCorrect 34 = .ok (.aload_n 0, 1) := by decide +kernel
theorem dX4_whyNotCorrect_35 : decode cX4_whyNotCorrect 35 = .ok (.getfield 12, 3) := by decide +kernel
theorem dX4_whyNotCorrect_38 : decode cX4_whyNotCorrect 38 = .ok (.aload_n 0, 1) := by decide +kernel
theorem dX4_whyNotCorrect_39 : decode cX4_whyNotCorrect 39 = .ok (.iload_n 1, 1) := by decide +kernel
theorem dX4_whyNotCorrect_40 : decode cX4_whyNotCorrect 40 = .ok (.invokevirtual 103, 3) := by decide +kernel
theorem dX4_whyNotCorrect_43 : decode cX4_whyNotCorrect 43 = .ok (.invokevirtual 106, 3) := by decide +kernel
theorem dX4_whyNotCorrect_46 : decode cX4_whyNotCorrect 46 = .ok (.ifCond .eq 7, 3) := by decide +kernel
theorem dX4_whyNotCorrect_49 : decode cX4_whyNotCorrect 49 = .ok (.iconst 0, 1) := by decide +kernel
theorem dX4_whyNotCorrect_50 : decode cX4_whyNotCorrect 50 = .ok (.goto 4, 3) := by decide +kernel
theorem dX4_whyNotCorrect_53 : decode cX4_whyNotCorrect 53 = .ok (.iconst 5, 1) := by decide +kernel
theorem dX4_whyNotCorrect_54 : decode cX4_whyNotCorrect 54 = .ok (.ireturn, 1) := by decide +kernel
set_option maxRecDepth 20000 in
theorem ggX4_correct_X2_letterAt : GoodIn wsX4_correct wsX2_letterAt := goodIn_r _ [9, 10, 11, 65, 66, 67] (by decide +kernel) (by decide +kernel)
set_option maxRecDepth 20000 in
theorem gX4_correct_X2_letterAt : GoodIn wsX4_correct (wsV RX4 91 RX2 yX2_letterAt wsX2_letterAt) := goodIn_app (goodIn_of _ (by decide +kernel)) ggX4_correct_X2_letterAt
set_option maxRecDepth 20000 in
theorem ggX4_correct_X4_boxBehind : GoodIn wsX4_correct wsX4_boxBehind := goodIn_r _ [16, 1, 17, 18, 19, 15, 20, 21, 5, 6, 7, 8, 9, 10, 11, 22, 23, 24, 25, 26, 54, 55, 56, 57, 58, 59, 60, 61, 62, 63, 64, 65, 66, 67] (by decide +kernel) (by decide +kernel)
set_option maxRecDepth 20000 in
theorem gX4_correct_X4_boxBehind : GoodIn wsX4_correct (wsV RX4 103 RX4 yX4_boxBehind wsX4_boxBehind) := goodIn_app (goodIn_of _ (by decide +kernel)) ggX4_correct_X4_boxBehind
set_option maxRecDepth 20000 in
theorem ggX4_correct_X2_sortAt : GoodIn wsX4_correct wsX2_sortAt := goodIn_r _ [25, 10, 26, 65, 66, 67] (by decide +kernel) (by decide +kernel)
set_option maxRecDepth 20000 in
theorem gX4_correct_X2_sortAt : GoodIn wsX4_correct (wsV RX4 94 RX2 yX2_sortAt wsX2_sortAt) := goodIn_app (goodIn_of _ (by decide +kernel)) ggX4_correct_X2_sortAt
set_option maxRecDepth 20000 in
theorem ggX4_correct_X0_put : GoodIn wsX4_correct wsX0_put := goodIn_r _ [31, 32, 33, 68, 69, 70] (by decide +kernel) (by decide +kernel)
set_option maxRecDepth 20000 in
theorem gX4_correct_X0_put : GoodIn wsX4_correct (wsV RX4 109 RX0 yX0_put wsX0_put) := goodIn_app (goodIn_of _ (by decide +kernel)) ggX4_correct_X0_put
set_option maxRecDepth 20000 in
theorem ggX4_correct_X0_depthOfRight : GoodIn wsX4_correct wsX0_depthOfRight := goodIn_r _ [37, 38, 39, 40, 30, 41, 32, 42, 43, 44, 45, 33, 68, 69, 70] (by decide +kernel) (by decide +kernel)
set_option maxRecDepth 20000 in
theorem gX4_correct_X0_depthOfRight : GoodIn wsX4_correct (wsV RX4 100 RX0 yX0_depthOfRight wsX0_depthOfRight) := goodIn_app (goodIn_of _ (by decide +kernel)) ggX4_correct_X0_depthOfRight
set_option maxRecDepth 20000 in
theorem ggX4_correct_X0_dropAt : GoodIn wsX4_correct wsX0_dropAt := goodIn_r _ [49, 32, 33, 68, 69, 70] (by decide +kernel) (by decide +kernel)
set_option maxRecDepth 20000 in
theorem gX4_correct_X0_dropAt : GoodIn wsX4_correct (wsV RX4 112 RX0 yX0_dropAt wsX0_dropAt) := goodIn_app (goodIn_of _ (by decide +kernel)) ggX4_correct_X0_dropAt
set_option maxRecDepth 20000 in
theorem ggX4_correct_X2_replaceAt : GoodIn wsX4_correct wsX2_replaceAt := goodIn_r _ [53, 10, 26, 65, 66, 67] (by decide +kernel) (by decide +kernel)
set_option maxRecDepth 20000 in
theorem gX4_correct_X2_replaceAt : GoodIn wsX4_correct (wsV RX4 115 RX2 yX2_replaceAt wsX2_replaceAt) := goodIn_app (goodIn_of _ (by decide +kernel)) ggX4_correct_X2_replaceAt
theorem dX4_correct_0 : decode cX4_correct 0 = .ok (.aload_n 0, 1) := by decide +kernel
theorem dX4_correct_1 : decode cX4_correct 1 = .ok (.getfield 21, 3) := by decide +kernel
theorem dX4_correct_4 : decode cX4_correct 4 = .ok (.iload_n 1, 1) := by decide +kernel
theorem dX4_correct_5 : decode cX4_correct 5 = .ok (.invokevirtual 91, 3) := by decide +kernel
theorem dX4_correct_8 : decode cX4_correct 8 = .ok (.istore_n 2, 1) := by decide +kernel
theorem dX4_correct_9 : decode cX4_correct 9 = .ok (.aload_n 0, 1) := by decide +kernel
theorem dX4_correct_10 : decode cX4_correct 10 = .ok (.getfield 12, 3) := by decide +kernel
theorem dX4_correct_13 : decode cX4_correct 13 = .ok (.aload_n 0, 1) := by decide +kernel
theorem dX4_correct_14 : decode cX4_correct 14 = .ok (.iload_n 1, 1) := by decide +kernel
theorem dX4_correct_15 : decode cX4_correct 15 = .ok (.invokevirtual 103, 3) := by decide +kernel
theorem dX4_correct_18 : decode cX4_correct 18 = .ok (.aload_n 0, 1) := by decide +kernel
theorem dX4_correct_19 : decode cX4_correct 19 = .ok (.getfield 21, 3) := by decide +kernel
theorem dX4_correct_22 : decode cX4_correct 22 = .ok (.iload_n 1, 1) := by decide +kernel
theorem dX4_correct_23 : decode cX4_correct 23 = .ok (.invokevirtual 94, 3) := by decide +kernel
theorem dX4_correct_26 : decode cX4_correct 26 = .ok (.invokevirtual 109, 3) := by decide +kernel
theorem dX4_correct_29 : decode cX4_correct 29 = .ok (.aload_n 0, 1) := by decide +kernel
theorem dX4_correct_30 : decode cX4_correct 30 = .ok (.getfield 12, 3) := by decide +kernel
theorem dX4_correct_33 : decode cX4_correct 33 = .ok (.iload_n 2, 1) := by decide +kernel
theorem dX4_correct_34 : decode cX4_correct 34 = .ok (.aload_n 0, 1) := by decide +kernel
theorem dX4_correct_35 : decode cX4_correct 35 = .ok (.getfield 12, 3) := by decide +kernel
theorem dX4_correct_38 : decode cX4_correct 38 = .ok (.iload_n 2, 1) := by decide +kernel
theorem dX4_correct_39 : decode cX4_correct 39 = .ok (.invokevirtual 100, 3) := by decide +kernel
theorem dX4_correct_42 : decode cX4_correct 42 = .ok (.invokevirtual 112, 3) := by decide +kernel
theorem dX4_correct_45 : decode cX4_correct 45 = .ok (.aload_n 0, 1) := by decide +kernel
theorem dX4_correct_46 : decode cX4_correct 46 = .ok (.getfield 21, 3) := by decide +kernel
theorem dX4_correct_49 : decode cX4_correct 49 = .ok (.iload_n 1, 1) := by decide +kernel
theorem dX4_correct_50 : decode cX4_correct 50 = .ok (.iload_n 2, 1) := by decide +kernel
theorem dX4_correct_51 : decode cX4_correct 51 = .ok (.invokevirtual 115, 3) := by decide +kernel
theorem dX4_correct_54 : decode cX4_correct 54 = .ok (.aload_n 0, 1) := by decide +kernel
theorem dX4_correct_55 : decode cX4_correct 55 = .ok (.dup, 1) := by decide +kernel
theorem dX4_correct_56 : decode cX4_correct 56 = .ok (.getfield 42, 3) := by decide +kernel
theorem dX4_correct_59 : decode cX4_correct 59 = .ok (.iconst 1, 1) := by decide +kernel
theorem dX4_correct_60 : decode cX4_correct 60 = .ok (.iadd, 1) := by decide +kernel
theorem dX4_correct_61 : decode cX4_correct 61 = .ok (.putfield 42, 3) := by decide +kernel
theorem dX4_correct_64 : decode cX4_correct 64 = .ok (.aload_n 0, 1) := by decide +kernel
theorem dX4_correct_65 : decode cX4_correct 65 = .ok (.iconst (-1), 1) := by decide +kernel
theorem dX4_correct_66 : decode cX4_correct 66 = .ok (.putfield 29, 3) := by decide +kernel
theorem dX4_correct_69 : decode cX4_correct 69 = .ok (.return_, 1) := by decide +kernel
set_option maxRecDepth 20000 in
theorem ggX4_whyNotReturn_X0_heightOf : GoodIn wsX4_whyNotReturn wsX0_heightOf := goodIn_r _ [7, 8, 45, 46, 47] (by decide +kernel) (by decide +kernel)
set_option maxRecDepth 20000 in
theorem gX4_whyNotReturn_X0_heightOf : GoodIn wsX4_whyNotReturn (wsV RX4 118 RX0 yX0_heightOf wsX0_heightOf) := goodIn_app (goodIn_of _ (by decide +kernel)) ggX4_whyNotReturn_X0_heightOf
set_option maxRecDepth 20000 in
theorem ggX4_whyNotReturn_X4_boxBehind : GoodIn wsX4_whyNotReturn wsX4_boxBehind := goodIn_r _ [13, 2, 14, 15, 16, 12, 17, 18, 19, 20, 21, 22, 23, 24, 25, 26, 27, 28, 29, 30, 31, 32, 33, 34, 35, 36, 37, 38, 39, 40, 41, 42, 43, 44] (by decide +kernel) (by decide +kernel)
set_option maxRecDepth 20000 in
theorem gX4_whyNotReturn_X4_boxBehind : GoodIn wsX4_whyNotReturn (wsV RX4 103 RX4 yX4_boxBehind wsX4_boxBehind) := goodIn_app (goodIn_of _ (by decide +kernel)) ggX4_whyNotReturn_X4_boxBehind
theorem dX4_whyNotReturn_0 : decode cX4_whyNotReturn 0 = .ok (.iconst 0, 1) := by decide +kernel
theorem dX4_whyNotReturn_1 : decode cX4_whyNotReturn 1 = .ok (.istore_n 1, 1) := by decide +kernel
theorem dX4_whyNotReturn_2 : decode cX4_whyNotReturn 2 = .ok (.iload_n 1, 1) := by decide +kernel
theorem dX4_whyNotReturn_3 : decode cX4_whyNotReturn 3 = .ok (.bipush 12, 2) := by decide +kernel
theorem dX4_whyNotReturn_5 : decode cX4_whyNotReturn 5 = .ok (.if_icmp .ge 58, 3) := by decide +kernel
theorem dX4_whyNotReturn_8 : decode cX4_whyNotReturn 8 = .ok (.aload_n 0, 1) := by decide +kernel
theorem dX4_whyNotReturn_9 : decode cX4_whyNotReturn 9 = .ok (.getfield 12, 3) := by decide +kernel
theorem dX4_whyNotReturn_12 : decode cX4_whyNotReturn 12 = .ok (.iload_n 1, 1) := by decide +kernel
theorem dX4_whyNotReturn_13 : decode cX4_whyNotReturn 13 = .ok (.invokevirtual 118, 3) := by decide +kernel
theorem dX4_whyNotReturn_16 : decode cX4_whyNotReturn 16 = .ok (.istore_n 2, 1) := by decide +kernel
theorem dX4_whyNotReturn_17 : decode cX4_whyNotReturn 17 = .ok (.iconst 0, 1) := by decide +kernel
theorem dX4_whyNotReturn_18 : decode cX4_whyNotReturn 18 = .ok (.istore_n 3, 1) := by decide +kernel
theorem dX4_whyNotReturn_19 : decode cX4_whyNotReturn 19 = .ok (.iload_n 3, 1) := by decide +kernel
theorem dX4_whyNotReturn_20 : decode cX4_whyNotReturn 20 = .ok (.aload_n 0, 1) := by decide +kernel
theorem dX4_whyNotReturn_21 : decode cX4_whyNotReturn 21 = .ok (.getfield 21, 3) := by decide +kernel
theorem dX4_whyNotReturn_24 : decode cX4_whyNotReturn 24 = .ok (.getfield 121, 3) := by decide +kernel
theorem dX4_whyNotReturn_27 : decode cX4_whyNotReturn 27 = .ok (.if_icmp .ge 21, 3) := by decide +kernel
theorem dX4_whyNotReturn_30 : decode cX4_whyNotReturn 30 = .ok (.aload_n 0, 1) := by decide +kernel
theorem dX4_whyNotReturn_31 : decode cX4_whyNotReturn 31 = .ok (.iload_n 3, 1) := by decide +kernel
theorem dX4_whyNotReturn_32 : decode cX4_whyNotReturn 32 = .ok (.invokevirtual 103, 3) := by decide +kernel
theorem dX4_whyNotReturn_35 : decode cX4_whyNotReturn 35 = .ok (.iload_n 1, 1) := by decide +kernel
theorem dX4_whyNotReturn_36 : decode cX4_whyNotReturn 36 = .ok (.if_icmp .ne 6, 3) := by decide +kernel
theorem dX4_whyNotReturn_39 : decode cX4_whyNotReturn 39 = .ok (.iinc 2 1, 3) := by decide +kernel
theorem dX4_whyNotReturn_42 : decode cX4_whyNotReturn 42 = .ok (.iinc 3 1, 3) := by decide +kernel
theorem dX4_whyNotReturn_45 : decode cX4_whyNotReturn 45 = .ok (.goto (-26), 3) := by decide +kernel
theorem dX4_whyNotReturn_48 : decode cX4_whyNotReturn 48 = .ok (.iload_n 2, 1) := by decide +kernel
theorem dX4_whyNotReturn_49 : decode cX4_whyNotReturn 49 = .ok (.bipush 20, 2) := by decide +kernel
theorem dX4_whyNotReturn_51 : decode cX4_whyNotReturn 51 = .ok (.if_icmp .le 6, 3) := by decide +kernel
theorem dX4_whyNotReturn_54 : decode cX4_whyNotReturn 54 = .ok (.bipush 6, 2) := by decide +kernel
theorem dX4_whyNotReturn_56 : decode cX4_whyNotReturn 56 = .ok (.ireturn, 1) := by decide +kernel
theorem dX4_whyNotReturn_57 : decode cX4_whyNotReturn 57 = .ok (.iinc 1 1, 3) := by decide +kernel
theorem dX4_whyNotReturn_60 : decode cX4_whyNotReturn 60 = .ok (.goto (-58), 3) := by decide +kernel
theorem dX4_whyNotReturn_63 : decode cX4_whyNotReturn 63 = .ok (.iconst 0, 1) := by decide +kernel
theorem dX4_whyNotReturn_64 : decode cX4_whyNotReturn 64 = .ok (.ireturn, 1) := by decide +kernel
set_option maxRecDepth 20000 in
theorem ggX4_returnLine_X4_boxBehind : GoodIn wsX4_returnLine wsX4_boxBehind := goodIn_r _ [9, 1, 10, 11, 12, 8, 13, 14, 15, 16, 17, 18, 19, 20, 21, 22, 23, 24, 25, 26, 38, 39, 40, 41, 42, 43, 44, 45, 46, 47, 48, 49, 50, 51] (by decide +kernel) (by decide +kernel)
set_option maxRecDepth 20000 in
theorem gX4_returnLine_X4_boxBehind : GoodIn wsX4_returnLine (wsV RX4 103 RX4 yX4_boxBehind wsX4_boxBehind) := goodIn_app (goodIn_of _ (by decide +kernel)) ggX4_returnLine_X4_boxBehind
set_option maxRecDepth 20000 in
theorem ggX4_returnLine_X2_sortAt : GoodIn wsX4_returnLine wsX2_sortAt := goodIn_r _ [25, 20, 26, 49, 50, 51] (by decide +kernel) (by decide +kernel)
set_option maxRecDepth 20000 in
theorem gX4_returnLine_X2_sortAt : GoodIn wsX4_returnLine (wsV RX4 94 RX2 yX2_sortAt wsX2_sortAt) := goodIn_app (goodIn_of _ (by decide +kernel)) ggX4_returnLine_X2_sortAt
set_option maxRecDepth 20000 in
theorem ggX4_returnLine_X0_put : GoodIn wsX4_returnLine wsX0_put := goodIn_r _ [31, 32, 33, 52, 53, 54] (by decide +kernel) (by decide +kernel)
set_option maxRecDepth 20000 in
theorem gX4_returnLine_X0_put : GoodIn wsX4_returnLine (wsV RX4 109 RX0 yX0_put wsX0_put) := goodIn_app (goodIn_of _ (by decide +kernel)) ggX4_returnLine_X0_put
set_option maxRecDepth 20000 in
theorem ggX4_returnLine_X2_clear : GoodIn wsX4_returnLine wsX2_clear := goodIn_r _ [37, 20, 49, 50, 51] (by decide +kernel) (by decide +kernel)
set_option maxRecDepth 20000 in
theorem gX4_returnLine_X2_clear : GoodIn wsX4_returnLine (wsV RX4 124 RX2 yX2_clear wsX2_clear) := goodIn_app (goodIn_of _ (by decide +kernel)) ggX4_returnLine_X2_clear
theorem dX4_returnLine_0 : decode cX4_returnLine 0 = .ok (.aload_n 0, 1) := by decide +kernel
theorem dX4_returnLine_1 : decode cX4_returnLine 1 = .ok (.getfield 21, 3) := by decide +kernel
theorem dX4_returnLine_4 : decode cX4_returnLine 4 = .ok (.getfield 121, 3) := by decide +kernel
theorem dX4_returnLine_7 : decode cX4_returnLine 7 = .ok (.iconst 1, 1) := by decide +kernel
theorem dX4_returnLine_8 : decode cX4_returnLine 8 = .ok (.isub, 1) := by decide +kernel
theorem dX4_returnLine_9 : decode cX4_returnLine 9 = .ok (.istore_n 1, 1) := by decide +kernel
theorem dX4_returnLine_10 : decode cX4_returnLine 10 = .ok (.iload_n 1, 1) := by decide +kernel
theorem dX4_returnLine_11 : decode cX4_returnLine 11 = .ok (.ifCond .lt 29, 3) := by decide +kernel
theorem dX4_returnLine_14 : decode cX4_returnLine 14 = .ok (.aload_n 0, 1) := by decide +kernel
theorem dX4_returnLine_15 : decode cX4_returnLine 15 = .ok (.getfield 12, 3) := by decide +kernel
theorem dX4_returnLine_18 : decode cX4_returnLine 18 = .ok (.aload_n 0, 1) := by decide +kernel
theorem dX4_returnLine_19 : decode cX4_returnLine 19 = .ok (.iload_n 1, 1) := by decide +kernel
theorem dX4_returnLine_20 : decode cX4_returnLine 20 = .ok (.invokevirtual 103, 3) := by decide +kernel
theorem dX4_returnLine_23 : decode cX4_returnLine 23 = .ok (.aload_n 0, 1) := by decide +kernel
theorem dX4_returnLine_24 : decode cX4_returnLine 24 = .ok (.getfield 21, 3) := by decide +kernel
theorem dX4_returnLine_27 : decode cX4_returnLine 27 = .ok (.iload_n 1, 1) := by decide +kernel
theorem dX4_returnLine_28 : decode cX4_returnLine 28 = .ok (.invokevirtual 94, 3) := by decide +kernel
theorem dX4_returnLine_31 : decode cX4_returnLine 31 = .ok (.invokevirtual 109, 3) := by decide +kernel
theorem dX4_returnLine_34 : decode cX4_returnLine 34 = .ok (.iinc 1 (-1), 3) := by decide +kernel
theorem dX4_returnLine_37 : decode cX4_returnLine 37 = .ok (.goto (-27), 3) := by decide +kernel
theorem dX4_returnLine_40 : decode cX4_returnLine 40 = .ok (.aload_n 0, 1) := by decide +kernel
theorem dX4_returnLine_41 : decode cX4_returnLine 41 = .ok (.getfield 21, 3) := by decide +kernel
theorem dX4_returnLine_44 : decode cX4_returnLine 44 = .ok (.invokevirtual 124, 3) := by decide +kernel
theorem dX4_returnLine_47 : decode cX4_returnLine 47 = .ok (.aload_n 0, 1) := by decide +kernel
theorem dX4_returnLine_48 : decode cX4_returnLine 48 = .ok (.dup, 1) := by decide +kernel
theorem dX4_returnLine_49 : decode cX4_returnLine 49 = .ok (.getfield 45, 3) := by decide +kernel
theorem dX4_returnLine_52 : decode cX4_returnLine 52 = .ok (.iconst 1, 1) := by decide +kernel
theorem dX4_returnLine_53 : decode cX4_returnLine 53 = .ok (.iadd, 1) := by decide +kernel
theorem dX4_returnLine_54 : decode cX4_returnLine 54 = .ok (.putfield 45, 3) := by decide +kernel
theorem dX4_returnLine_57 : decode cX4_returnLine 57 = .ok (.aload_n 0, 1) := by decide +kernel
theorem dX4_returnLine_58 : decode cX4_returnLine 58 = .ok (.iconst (-1), 1) := by decide +kernel
theorem dX4_returnLine_59 : decode cX4_returnLine 59 = .ok (.putfield 29, 3) := by decide +kernel
theorem dX4_returnLine_62 : decode cX4_returnLine 62 = .ok (.return_, 1) := by decide +kernel
set_option maxRecDepth 20000 in
theorem ggX4_exchange_X0_exchangeUpmost : GoodIn wsX4_exchange wsX0_exchangeUpmost := goodIn_r _ [7, 8, 9, 10, 6, 11, 12, 13, 14, 15, 16, 17, 18, 19, 20, 21, 33, 34, 35] (by decide +kernel) (by decide +kernel)
set_option maxRecDepth 20000 in
theorem gX4_exchange_X0_exchangeUpmost : GoodIn wsX4_exchange (wsV RX4 127 RX0 yX0_exchangeUpmost wsX0_exchangeUpmost) := goodIn_app (goodIn_of _ (by decide +kernel)) ggX4_exchange_X0_exchangeUpmost
theorem dX4_exchange_0 : decode cX4_exchange 0 = .ok (.aload_n 0, 1) := by decide +kernel
theorem dX4_exchange_1 : decode cX4_exchange 1 = .ok (.getfield 12, 3) := by decide +kernel
theorem dX4_exchange_4 : decode cX4_exchange 4 = .ok (.iload_n 1, 1) := by decide +kernel
theorem dX4_exchange_5 : decode cX4_exchange 5 = .ok (.iload_n 2, 1) := by decide +kernel
theorem dX4_exchange_6 : decode cX4_exchange 6 = .ok (.invokevirtual 127, 3) := by decide +kernel
theorem dX4_exchange_9 : decode cX4_exchange 9 = .ok (.aload_n 0, 1) := by decide +kernel
theorem dX4_exchange_10 : decode cX4_exchange 10 = .ok (.iconst (-1), 1) := by decide +kernel
theorem dX4_exchange_11 : decode cX4_exchange 11 = .ok (.putfield 29, 3) := by decide +kernel
theorem dX4_exchange_14 : decode cX4_exchange 14 = .ok (.return_, 1) := by decide +kernel
set_option maxRecDepth 20000 in
theorem ggX4_wrongBySorts_X0_countIn : GoodIn wsX4_wrongBySorts wsX0_countIn := goodIn_r _ [7, 8, 9, 10, 6, 11, 12, 13, 14, 15, 16, 17, 40, 41, 42] (by decide +kernel) (by decide +kernel)
set_option maxRecDepth 20000 in
theorem gX4_wrongBySorts_X0_countIn : GoodIn wsX4_wrongBySorts (wsV RX4 130 RX0 yX0_countIn wsX0_countIn) := goodIn_app (goodIn_of _ (by decide +kernel)) ggX4_wrongBySorts_X0_countIn
set_option maxRecDepth 20000 in
theorem ggX4_wrongBySorts_X2_countOf : GoodIn wsX4_wrongBySorts wsX2_countOf := goodIn_r _ [22, 23, 24, 25, 26, 21, 27, 28, 43, 44, 45] (by decide +kernel) (by decide +kernel)
set_option maxRecDepth 20000 in
theorem gX4_wrongBySorts_X2_countOf : GoodIn wsX4_wrongBySorts (wsV RX4 133 RX2 yX2_countOf wsX2_countOf) := goodIn_app (goodIn_of _ (by decide +kernel)) ggX4_wrongBySorts_X2_countOf
theorem dX4_wrongBySorts_0 : decode cX4_wrongBySorts 0 = .ok (.iconst 0, 1) := by decide +kernel
theorem dX4_wrongBySorts_1 : decode cX4_wrongBySorts 1 = .ok (.istore_n 1, 1) := by decide +kernel
theorem dX4_wrongBySorts_2 : decode cX4_wrongBySorts 2 = .ok (.iconst 0, 1) := by decide +kernel
theorem dX4_wrongBySorts_3 : decode cX4_wrongBySorts 3 = .ok (.istore_n 2, 1) := by decide +kernel
theorem dX4_wrongBySorts_4 : decode cX4_wrongBySorts 4 = .ok (.iload_n 2, 1) := by decide +kernel
theorem dX4_wrongBySorts_5 : decode cX4_wrongBySorts 5 = .ok (.bipush 12, 2) := by decide +kernel
theorem dX4_wrongBySorts_7 : decode cX4_wrongBySorts 7 = .ok (.if_icmp .ge 33, 3) := by decide +kernel
theorem dX4_wrongBySorts_10 : decode cX4_wrongBySorts 10 = .ok (.iload_n 1, 1) := by decide +kernel
theorem dX4_wrongBySorts_11 : decode cX4_wrongBySorts 11 = .ok (.bipush 6, 2) := by decide +kernel
theorem dX4_wrongBySorts_13 : decode cX4_wrongBySorts 13 = .ok (.aload_n 0, 1) := by decide +kernel
theorem dX4_wrongBySorts_14 : decode cX4_wrongBySorts 14 = .ok (.getfield 12, 3) := by decide +kernel
theorem dX4_wrongBySorts_17 : decode cX4_wrongBySorts 17 = .ok (.iload_n 2, 1) := by decide +kernel
theorem dX4_wrongBySorts_18 : decode cX4_wrongBySorts 18 = .ok (.iload_n 2, 1) := by decide +kernel
theorem dX4_wrongBySorts_19 : decode cX4_wrongBySorts 19 = .ok (.invokevirtual 130, 3) := by decide +kernel
theorem dX4_wrongBySorts_22 : decode cX4_wrongBySorts 22 = .ok (.isub, 1) := by decide +kernel
theorem dX4_wrongBySorts_23 : decode cX4_wrongBySorts 23 = .ok (.aload_n 0, 1) := by decide +kernel
theorem dX4_wrongBySorts_24 : decode cX4_wrongBySorts 24 = .ok (.getfield 21, 3) := by decide +kernel
theorem dX4_wrongBySorts_27 : decode cX4_wrongBySorts 27 = .ok (.iload_n 2, 1) := by decide +kernel
theorem dX4_wrongBySorts_28 : decode cX4_wrongBySorts 28 = .ok (.invokevirtual 133, 3) := by decide +kernel
theorem dX4_wrongBySorts_31 : decode cX4_wrongBySorts 31 = .ok (.isub, 1) := by decide +kernel
theorem dX4_wrongBySorts_32 : decode cX4_wrongBySorts 32 = .ok (.iadd, 1) := by decide +kernel
theorem dX4_wrongBySorts_33 : decode cX4_wrongBySorts 33 = .ok (.istore_n 1, 1) := by decide +kernel
theorem dX4_wrongBySorts_34 : decode cX4_wrongBySorts 34 = .ok (.iinc 2 1, 3) := by decide +kernel
theorem dX4_wrongBySorts_37 : decode cX4_wrongBySorts 37 = .ok (.goto (-33), 3) := by decide +kernel
theorem dX4_wrongBySorts_40 : decode cX4_wrongBySorts 40 = .ok (.iload_n 1, 1) := by decide +kernel
theorem dX4_wrongBySorts_41 : decode cX4_wrongBySorts 41 = .ok (.ireturn, 1) := by decide +kernel
