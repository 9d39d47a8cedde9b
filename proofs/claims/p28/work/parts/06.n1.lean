set_option maxRecDepth 20000 in
theorem ggX1_init_X4_init : GoodIn wsX1_init wsX4_init := goodIn_r _ [11, 12, 2, 3, 13, 14, 15, 16, 17, 18, 19, 20, 21, 22, 23, 24, 25, 26, 27, 28, 29, 30, 31, 32, 33, 34, 35, 36, 37, 38, 39, 40, 41, 42, 43, 44, 45, 46, 47, 62, 63, 64, 51, 52, 53, 54, 55, 56, 57, 58, 59, 60, 61, 65, 66, 67] (by decide +kernel) (by decide +kernel)
set_option maxRecDepth 20000 in
theorem gX1_init_X4_init_n24 : GoodIn wsX1_init (wsX4_init) := ggX1_init_X4_init
theorem dX1_init_0 : decode cX1_init 0 = .ok (.aload_n 0, 1) := by decide +kernel
theorem dX1_init_1 : decode cX1_init 1 = .ok (.invokespecial 3, 3) := by decide +kernel
theorem dX1_init_4 : decode cX1_init 4 = .ok (.aload_n 0, 1) := by decide +kernel
theorem dX1_init_5 : decode cX1_init 5 = .ok (.bipush 6, 2) := by decide +kernel
theorem dX1_init_7 : decode cX1_init 7 = .ok (.anewarray 9, 3) := by decide +kernel
theorem dX1_init_10 : decode cX1_init 10 = .ok (.putfield 11, 3) := by decide +kernel
theorem dX1_init_13 : decode cX1_init 13 = .ok (.aload_n 0, 1) := by decide +kernel
theorem dX1_init_14 : decode cX1_init 14 = .ok (.iconst 0, 1) := by decide +kernel
theorem dX1_init_15 : decode cX1_init 15 = .ok (.putfield 17, 3) := by decide +kernel
theorem dX1_init_18 : decode cX1_init 18 = .ok (.aload_n 0, 1) := by decide +kernel
theorem dX1_init_19 : decode cX1_init 19 = .ok (.iconst 0, 1) := by decide +kernel
theorem dX1_init_20 : decode cX1_init 20 = .ok (.putfield 21, 3) := by decide +kernel
theorem dX1_init_23 : decode cX1_init 23 = .ok (.iconst 0, 1) := by decide +kernel
theorem dX1_init_24 : decode cX1_init 24 = .ok (.istore_n 1, 1) := by decide +kernel
theorem dX1_init_25 : decode cX1_init 25 = .ok (.iload_n 1, 1) := by decide +kernel
theorem dX1_init_26 : decode cX1_init 26 = .ok (.aload_n 0, 1) := by decide +kernel
theorem dX1_init_27 : decode cX1_init 27 = .ok (.getfield 11, 3) := by decide +kernel
theorem dX1_init_30 : decode cX1_init 30 = .ok (.arraylength, 1) := by decide +kernel
theorem dX1_init_31 : decode cX1_init 31 = .ok (.if_icmp .ge 22, 3) := by decide +kernel
theorem dX1_init_34 : decode cX1_init 34 = .ok (.aload_n 0, 1) := by decide +kernel
theorem dX1_init_35 : decode cX1_init 35 = .ok (.getfield 11, 3) := by decide +kernel
theorem dX1_init_38 : decode cX1_init 38 = .ok (.iload_n 1, 1) := by decide +kernel
theorem dX1_init_39 : decode cX1_init 39 = .ok (.new 9, 3) := by decide +kernel
theorem dX1_init_42 : decode cX1_init 42 = .ok (.dup, 1) := by decide +kernel
theorem dX1_init_43 : decode cX1_init 43 = .ok (.invokespecial 24, 3) := by decide +kernel
theorem dX1_init_46 : decode cX1_init 46 = .ok (.aastore, 1) := by decide +kernel
theorem dX1_init_47 : decode cX1_init 47 = .ok (.iinc 1 1, 3) := by decide +kernel
theorem dX1_init_50 : decode cX1_init 50 = .ok (.goto (-25), 3) := by decide +kernel
theorem dX1_init_53 : decode cX1_init 53 = .ok (.return_, 1) := by decide +kernel
set_option maxRecDepth 20000 in
theorem ggX1_save_X4_copyFrom : GoodIn wsX1_save wsX4_copyFrom := goodIn_r _ [8, 9, 10, 11, 12, 13, 14, 15, 16, 17, 18, 19, 20, 21, 22, 23, 24, 25, 26, 27, 28, 29, 30, 31, 32, 33, 34, 35, 39, 40, 41, 42, 43, 44, 45, 46, 47, 48, 49, 50, 51, 52, 53, 54, 55] (by decide +kernel) (by decide +kernel)
set_option maxRecDepth 20000 in
theorem gX1_save_X4_copyFrom : GoodIn wsX1_save (wsV RX1 25 RX4 yX4_copyFrom wsX4_copyFrom) := goodIn_app (goodIn_of _ (by decide +kernel)) ggX1_save_X4_copyFrom
theorem dX1_save_0 : decode cX1_save 0 = .ok (.aload_n 0, 1) := by decide +kernel
theorem dX1_save_1 : decode cX1_save 1 = .ok (.getfield 17, 3) := by decide +kernel
theorem dX1_save_4 : decode cX1_save 4 = .ok (.ifCond .lt 27, 3) := by decide +kernel
theorem dX1_save_7 : decode cX1_save 7 = .ok (.aload_n 0, 1) := by decide +kernel
theorem dX1_save_8 : decode cX1_save 8 = .ok (.getfield 17, 3) := by decide +kernel
theorem dX1_save_11 : decode cX1_save 11 = .ok (.aload_n 0, 1) := by decide +kernel
theorem dX1_save_12 : decode cX1_save 12 = .ok (.getfield 11, 3) := by decide +kernel
theorem dX1_save_15 : decode cX1_save 15 = .ok (.arraylength, 1) := by decide +kernel
theorem dX1_save_16 : decode cX1_save 16 = .ok (.if_icmp .ge 15, 3) := by decide +kernel
theorem dX1_save_19 : decode cX1_save 19 = .ok (.aload_n 0, 1) := by decide +kernel
theorem dX1_save_20 : decode cX1_save 20 = .ok (.getfield 11, 3) := by decide +kernel
theorem dX1_save_23 : decode cX1_save 23 = .ok (.aload_n 0, 1) := by decide +kernel
theorem dX1_save_24 : decode cX1_save 24 = .ok (.getfield 17, 3) := by decide +kernel
theorem dX1_save_27 : decode cX1_save 27 = .ok (.aaload, 1) := by decide +kernel
theorem dX1_save_28 : decode cX1_save 28 = .ok (.ifnonnull 4, 3) := by decide +kernel
theorem dX1_save_31 : decode cX1_save 31 = .ok (.return_, 1) := by decide +kernel
theorem dX1_save_32 : decode cX1_save 32 = .ok (.aload_n 0, 1) := by decide +kernel
theorem dX1_save_33 : decode cX1_save 33 = .ok (.getfield 11, 3) := by decide +kernel
theorem dX1_save_36 : decode cX1_save 36 = .ok (.aload_n 0, 1) := by decide +kernel
theorem dX1_save_37 : decode cX1_save 37 = .ok (.getfield 17, 3) := by decide +kernel
theorem dX1_save_40 : decode cX1_save 40 = .ok (.aaload, 1) := by decide +kernel
theorem dX1_save_41 : decode cX1_save 41 = .ok (.aload_n 1, 1) := by decide +kernel
theorem dX1_save_42 : decode cX1_save 42 = .ok (.invokevirtual 25, 3) := by decide +kernel
theorem dX1_save_45 : decode cX1_save 45 = .ok (.aload_n 0, 1) := by decide +kernel
theorem dX1_save_46 : decode cX1_save 46 = .ok (.aload_n 0, 1) := by decide +kernel
theorem dX1_save_47 : decode cX1_save 47 = .ok (.getfield 17, 3) := by decide +kernel
theorem dX1_save_50 : decode cX1_save 50 = .ok (.iconst 1, 1) := by decide +kernel
theorem dX1_save_51 : decode cX1_save 51 = .ok (.iadd, 1) := by decide +kernel
theorem dX1_save_52 : decode cX1_save 52 = .ok (.aload_n 0, 1) := by decide +kernel
theorem dX1_save_53 : decode cX1_save 53 = .ok (.getfield 11, 3) := by decide +kernel
theorem dX1_save_56 : decode cX1_save 56 = .ok (.arraylength, 1) := by decide +kernel
theorem dX1_save_57 : decode cX1_save 57 = .ok (.if_icmp .ge 12, 3) := by decide +kernel
theorem dX1_save_60 : decode cX1_save 60 = .ok (.aload_n 0, 1) := by decide +kernel
theorem dX1_save_61 : decode cX1_save 61 = .ok (.getfield 17, 3) := by decide +kernel
theorem dX1_save_64 : decode cX1_save 64 = .ok (.iconst 1, 1) := by decide +kernel
theorem dX1_save_65 : decode cX1_save 65 = .ok (.iadd, 1) := by decide +kernel
theorem dX1_save_66 : decode cX1_save 66 = .ok (.goto 4, 3) := by decide +kernel
theorem dX1_save_69 : decode cX1_save 69 = .ok (.iconst 0, 1) := by decide +kernel
theorem dX1_save_70 : decode cX1_save 70 = .ok (.putfield 17, 3) := by decide +kernel
theorem dX1_save_73 : decode cX1_save 73 = .ok (.aload_n 0, 1) := by decide +kernel
theorem dX1_save_74 : decode cX1_save 74 = .ok (.aload_n 0, 1) := by decide +kernel
theorem dX1_save_75 : decode cX1_save 75 = .ok (.getfield 21, 3) := by decide +kernel
theorem dX1_save_78 : decode cX1_save 78 = .ok (.aload_n 0, 1) := by decide +kernel
theorem dX1_save_79 : decode cX1_save 79 = .ok (.getfield 11, 3) := by decide +kernel
theorem dX1_save_82 : decode cX1_save 82 = .ok (.arraylength, 1) := by decide +kernel
theorem dX1_save_83 : decode cX1_save 83 = .ok (.if_icmp .ge 12, 3) := by decide +kernel
theorem dX1_save_86 : decode cX1_save 86 = .ok (.aload_n 0, 1) := by decide +kernel
theorem dX1_save_87 : decode cX1_save 87 = .ok (.getfield 21, 3) := by decide +kernel
theorem dX1_save_90 : decode cX1_save 90 = .ok (.iconst 1, 1) := by decide +kernel
theorem dX1_save_91 : decode cX1_save 91 = .ok (.iadd, 1) := by decide +kernel
theorem dX1_save_92 : decode cX1_save 92 = .ok (.goto 8, 3) := by decide +kernel
theorem dX1_save_95 : decode cX1_save 95 = .ok (.aload_n 0, 1) := by decide +kernel
theorem dX1_save_96 : decode cX1_save 96 = .ok (.getfield 11, 3) := by decide +kernel
theorem dX1_save_99 : decode cX1_save 99 = .ok (.arraylength, 1) := by decide +kernel
theorem dX1_save_100 : decode cX1_save 100 = .ok (.putfield 21, 3) := by decide +kernel
theorem dX1_save_103 : decode cX1_save 103 = .ok (.return_, 1) := by decide +kernel
set_option maxRecDepth 20000 in
theorem ggX1_giveBack_X4_copyFrom : GoodIn wsX1_giveBack wsX4_copyFrom := goodIn_r _ [8, 9, 10, 11, 12, 13, 14, 15, 16, 17, 18, 19, 20, 21, 22, 23, 24, 25, 26, 27, 28, 29, 30, 31, 32, 33, 34, 35, 39, 40, 41, 42, 43, 44, 45, 46, 47, 48, 49, 50, 51, 52, 53, 54, 55] (by decide +kernel) (by decide +kernel)
set_option maxRecDepth 20000 in
theorem gX1_giveBack_X4_copyFrom : GoodIn wsX1_giveBack (wsV RX1 25 RX4 yX4_copyFrom wsX4_copyFrom) := goodIn_app (goodIn_of _ (by decide +kernel)) ggX1_giveBack_X4_copyFrom
theorem dX1_giveBack_0 : decode cX1_giveBack 0 = .ok (.aload_n 0, 1) := by decide +kernel
theorem dX1_giveBack_1 : decode cX1_giveBack 1 = .ok (.getfield 17, 3) := by decide +kernel
theorem dX1_giveBack_4 : decode cX1_giveBack 4 = .ok (.ifCond .le 12, 3) := by decide +kernel
theorem dX1_giveBack_7 : decode cX1_giveBack 7 = .ok (.aload_n 0, 1) := by decide +kernel
theorem dX1_giveBack_8 : decode cX1_giveBack 8 = .ok (.getfield 17, 3) := by decide +kernel
theorem dX1_giveBack_11 : decode cX1_giveBack 11 = .ok (.iconst 1, 1) := by decide +kernel
theorem dX1_giveBack_12 : decode cX1_giveBack 12 = .ok (.isub, 1) := by decide +kernel
theorem dX1_giveBack_13 : decode cX1_giveBack 13 = .ok (.goto 10, 3) := by decide +kernel
theorem dX1_giveBack_16 : decode cX1_giveBack 16 = .ok (.aload_n 0, 1) := by decide +kernel
theorem dX1_giveBack_17 : decode cX1_giveBack 17 = .ok (.getfield 11, 3) := by decide +kernel
theorem dX1_giveBack_20 : decode cX1_giveBack 20 = .ok (.arraylength, 1) := by decide +kernel
theorem dX1_giveBack_21 : decode cX1_giveBack 21 = .ok (.iconst 1, 1) := by decide +kernel
theorem dX1_giveBack_22 : decode cX1_giveBack 22 = .ok (.isub, 1) := by decide +kernel
theorem dX1_giveBack_23 : decode cX1_giveBack 23 = .ok (.istore_n 2, 1) := by decide +kernel
theorem dX1_giveBack_24 : decode cX1_giveBack 24 = .ok (.aload_n 0, 1) := by decide +kernel
theorem dX1_giveBack_25 : decode cX1_giveBack 25 = .ok (.getfield 21, 3) := by decide +kernel
theorem dX1_giveBack_28 : decode cX1_giveBack 28 = .ok (.ifCond .le 25, 3) := by decide +kernel
theorem dX1_giveBack_31 : decode cX1_giveBack 31 = .ok (.iload_n 2, 1) := by decide +kernel
theorem dX1_giveBack_32 : decode cX1_giveBack 32 = .ok (.ifCond .lt 21, 3) := by decide +kernel
theorem dX1_giveBack_35 : decode cX1_giveBack 35 = .ok (.iload_n 2, 1) := by decide +kernel
theorem dX1_giveBack_36 : decode cX1_giveBack 36 = .ok (.aload_n 0, 1) := by decide +kernel
theorem dX1_giveBack_37 : decode cX1_giveBack 37 = .ok (.getfield 11, 3) := by decide +kernel
theorem dX1_giveBack_40 : decode cX1_giveBack 40 = .ok (.arraylength, 1) := by decide +kernel
theorem dX1_giveBack_41 : decode cX1_giveBack 41 = .ok (.if_icmp .ge 12, 3) := by decide +kernel
theorem dX1_giveBack_44 : decode cX1_giveBack 44 = .ok (.aload_n 0, 1) := by decide +kernel
theorem dX1_giveBack_45 : decode cX1_giveBack 45 = .ok (.getfield 11, 3) := by decide +kernel
theorem dX1_giveBack_48 : decode cX1_giveBack 48 = .ok (.iload_n 2, 1) := by decide +kernel
theorem dX1_giveBack_49 : decode cX1_giveBack 49 = .ok (.aaload, 1) := by decide +kernel
theorem dX1_giveBack_50 : decode cX1_giveBack 50 = .ok (.ifnonnull 4, 3) := by decide +kernel
theorem dX1_giveBack_53 : decode cX1_giveBack 53 = .ok (.return_, 1) := by decide +kernel
theorem dX1_giveBack_54 : decode cX1_giveBack 54 = .ok (.aload_n 1, 1) := by decide +kernel
theorem dX1_giveBack_55 : decode cX1_giveBack 55 = .ok (.aload_n 0, 1) := by decide +kernel
theorem dX1_giveBack_56 : decode cX1_giveBack 56 = .ok (.getfield 11, 3) := by decide +kernel
theorem dX1_giveBack_59 : decode cX1_giveBack 59 = .ok (.iload_n 2, 1) := by decide +kernel
theorem dX1_giveBack_60 : decode cX1_giveBack 60 = .ok (.aaload, 1) := by decide +kernel
theorem dX1_giveBack_61 : decode cX1_giveBack 61 = .ok (.invokevirtual 25, 3) := by decide +kernel
theorem dX1_giveBack_64 : decode cX1_giveBack 64 = .ok (.aload_n 0, 1) := by decide +kernel
theorem dX1_giveBack_65 : decode cX1_giveBack 65 = .ok (.iload_n 2, 1) := by decide +kernel
theorem dX1_giveBack_66 : decode cX1_giveBack 66 = .ok (.putfield 17, 3) := by decide +kernel
theorem dX1_giveBack_69 : decode cX1_giveBack 69 = .ok (.aload_n 0, 1) := by decide +kernel
theorem dX1_giveBack_70 : decode cX1_giveBack 70 = .ok (.dup, 1) := by decide +kernel
theorem dX1_giveBack_71 : decode cX1_giveBack 71 = .ok (.getfield 21, 3) := by decide +kernel
theorem dX1_giveBack_74 : decode cX1_giveBack 74 = .ok (.iconst 1, 1) := by decide +kernel
theorem dX1_giveBack_75 : decode cX1_giveBack 75 = .ok (.isub, 1) := by decide +kernel
theorem dX1_giveBack_76 : decode cX1_giveBack 76 = .ok (.putfield 21, 3) := by decide +kernel
theorem dX1_giveBack_79 : decode cX1_giveBack 79 = .ok (.return_, 1) := by decide +kernel
theorem dX2_init_0 : decode cX2_init 0 = .ok (.aload_n 0, 1) := by decide +kernel
theorem dX2_init_1 : decode cX2_init 1 = .ok (.invokespecial 3, 3) := by decide +kernel
theorem dX2_init_4 : decode cX2_init 4 = .ok (.aload_n 0, 1) := by decide +kernel
theorem dX2_init_5 : decode cX2_init 5 = .ok (.bipush 72, 2) := by decide +kernel
theorem dX2_init_7 : decode cX2_init 7 = .ok (.newarray .int, 2) := by decide +kernel
theorem dX2_init_9 : decode cX2_init 9 = .ok (.putfield 9, 3) := by decide +kernel
theorem dX2_init_12 : decode cX2_init 12 = .ok (.aload_n 0, 1) := by decide +kernel
theorem dX2_init_13 : decode cX2_init 13 = .ok (.bipush 72, 2) := by decide +kernel
theorem dX2_init_15 : decode cX2_init 15 = .ok (.newarray .int, 2) := by decide +kernel
theorem dX2_init_17 : decode cX2_init 17 = .ok (.putfield 15, 3) := by decide +kernel
theorem dX2_init_20 : decode cX2_init 20 = .ok (.aload_n 0, 1) := by decide +kernel
theorem dX2_init_21 : decode cX2_init 21 = .ok (.iconst 0, 1) := by decide +kernel
theorem dX2_init_22 : decode cX2_init 22 = .ok (.putfield 18, 3) := by decide +kernel
theorem dX2_init_25 : decode cX2_init 25 = .ok (.return_, 1) := by decide +kernel
theorem dX2_copyFrom_0 : decode cX2_copyFrom 0 = .ok (.iconst 0, 1) := by decide +kernel
theorem dX2_copyFrom_1 : decode cX2_copyFrom 1 = .ok (.istore_n 2, 1) := by decide +kernel
theorem dX2_copyFrom_2 : decode cX2_copyFrom 2 = .ok (.iload_n 2, 1) := by decide +kernel
theorem dX2_copyFrom_3 : decode cX2_copyFrom 3 = .ok (.aload_n 0, 1) := by decide +kernel
theorem dX2_copyFrom_4 : decode cX2_copyFrom 4 = .ok (.getfield 9, 3) := by decide +kernel
theorem dX2_copyFrom_7 : decode cX2_copyFrom 7 = .ok (.arraylength, 1) := by decide +kernel
theorem dX2_copyFrom_8 : decode cX2_copyFrom 8 = .ok (.if_icmp .ge 30, 3) := by decide +kernel
theorem dX2_copyFrom_11 : decode cX2_copyFrom 11 = .ok (.iload_n 2, 1) := by decide +kernel
theorem dX2_copyFrom_12 : decode cX2_copyFrom 12 = .ok (.aload_n 1, 1) := by decide +kernel
theorem dX2_copyFrom_13 : decode cX2_copyFrom 13 = .ok (.getfield 9, 3) := by decide +kernel
theorem dX2_copyFrom_16 : decode cX2_copyFrom 16 = .ok (.arraylength, 1) := by decide +kernel
theorem dX2_copyFrom_17 : decode cX2_copyFrom 17 = .ok (.if_icmp .ge 21, 3) := by decide +kernel
theorem dX2_copyFrom_20 : decode cX2_copyFrom 20 = .ok (.aload_n 0, 1) := by decide +kernel
theorem dX2_copyFrom_21 : decode cX2_copyFrom 21 = .ok (.getfield 9, 3) := by decide +kernel
theorem dX2_copyFrom_24 : decode cX2_copyFrom 24 = .ok (.iload_n 2, 1) := by decide +kernel
theorem dX2_copyFrom_25 : decode cX2_copyFrom 25 = .ok (.aload_n 1, 1) := by decide +kernel
theorem dX2_copyFrom_26 : decode cX2_copyFrom 26 = .ok (.getfield 9, 3) := by decide +kernel
theorem dX2_copyFrom_29 : decode cX2_copyFrom 29 = .ok (.iload_n 2, 1) := by decide +kernel
theorem dX2_copyFrom_30 : decode cX2_copyFrom 30 = .ok (.iaload, 1) := by decide +kernel
theorem dX2_copyFrom_31 : decode cX2_copyFrom 31 = .ok (.iastore, 1) := by decide +kernel
theorem dX2_copyFrom_32 : decode cX2_copyFrom 32 = .ok (.iinc 2 1, 3) := by decide +kernel
theorem dX2_copyFrom_35 : decode cX2_copyFrom 35 = .ok (.goto (-33), 3) := by decide +kernel
theorem dX2_copyFrom_38 : decode cX2_copyFrom 38 = .ok (.iconst 0, 1) := by decide +kernel
theorem dX2_copyFrom_39 : decode cX2_copyFrom 39 = .ok (.istore_n 2, 1) := by decide +kernel
theorem dX2_copyFrom_40 : decode cX2_copyFrom 40 = .ok (.iload_n 2, 1) := by decide +kernel
theorem dX2_copyFrom_41 : decode cX2_copyFrom 41 = .ok (.aload_n 0, 1) := by decide +kernel
theorem dX2_copyFrom_42 : decode cX2_copyFrom 42 = .ok (.getfield 15, 3) := by decide +kernel
theorem dX2_copyFrom_45 : decode cX2_copyFrom 45 = .ok (.arraylength, 1) := by decide +kernel
theorem dX2_copyFrom_46 : decode cX2_copyFrom 46 = .ok (.if_icmp .ge 30, 3) := by decide +kernel
theorem dX2_copyFrom_49 : decode cX2_copyFrom 49 = .ok (.iload_n 2, 1) := by decide +kernel
theorem dX2_copyFrom_50 : decode cX2_copyFrom 50 = .ok (.aload_n 1, 1) := by decide +kernel
theorem dX2_copyFrom_51 : decode cX2_copyFrom 51 = .ok (.getfield 15, 3) := by decide +kernel
theorem dX2_copyFrom_54 : decode cX2_copyFrom 54 = .ok (.arraylength, 1) := by decide +kernel
theorem dX2_copyFrom_55 : decode cX2_copyFrom 55 = .ok (.if_icmp .ge 21, 3) := by decide +kernel
theorem dX2_copyFrom_58 : decode cX2_copyFrom 58 = .ok (.aload_n 0, 1) := by decide +kernel
theorem dX2_copyFrom_59 : decode cX2_copyFrom 59 = .ok (.getfield 15, 3) := by decide +kernel
theorem dX2_copyFrom_62 : decode cX2_copyFrom 62 = .ok (.iload_n 2, 1) := by decide +kernel
theorem dX2_copyFrom_63 : decode cX2_copyFrom 63 = .ok (.aload_n 1, 1) := by decide +kernel
theorem dX2_copyFrom_64 : decode cX2_copyFrom 64 = .ok (.getfield 15, 3) := by decide +kernel
theorem dX2_copyFrom_67 : decode cX2_copyFrom 67 = .ok (.iload_n 2, 1) := by decide +kernel
theorem dX2_copyFrom_68 : decode cX2_copyFrom 68 = .ok (.iaload, 1) := by decide +kernel
theorem dX2_copyFrom_69 : decode cX2_copyFrom 69 = .ok (.iastore, 1) := by decide +kernel
theorem dX2_copyFrom_70 : decode cX2_copyFrom 70 = .ok (.iinc 2 1, 3) := by decide +kernel
theorem dX2_copyFrom_73 : decode cX2_copyFrom 73 = .ok (.goto (-33), 3) := by decide +kernel
theorem dX2_copyFrom_76 : decode cX2_copyFrom 76 = .ok (.aload_n 0, 1) := by decide +kernel
theorem dX2_copyFrom_77 : decode cX2_copyFrom 77 = .ok (.aload_n 1, 1) := by decide +kernel
theorem dX2_copyFrom_78 : decode cX2_copyFrom 78 = .ok (.getfield 18, 3) := by decide +kernel
theorem dX2_copyFrom_81 : decode cX2_copyFrom 81 = .ok (.putfield 18, 3) := by decide +kernel
theorem dX2_copyFrom_84 : decode cX2_copyFrom 84 = .ok (.return_, 1) := by decide +kernel
theorem dX2_has_0 : decode cX2_has 0 = .ok (.iload_n 1, 1) := by decide +kernel
theorem dX2_has_1 : decode cX2_has 1 = .ok (.ifCond .lt 15, 3) := by decide +kernel
theorem dX2_has_4 : decode cX2_has 4 = .ok (.iload_n 1, 1) := by decide +kernel
theorem dX2_has_5 : decode cX2_has 5 = .ok (.aload_n 0, 1) := by decide +kernel
theorem dX2_has_6 : decode cX2_has 6 = .ok (.getfield 18, 3) := by decide +kernel
theorem dX2_has_9 : decode cX2_has 9 = .ok (.if_icmp .ge 7, 3) := by decide +kernel
theorem dX2_has_12 : decode cX2_has 12 = .ok (.iconst 1, 1) := by decide +kernel
theorem dX2_has_13 : decode cX2_has 13 = .ok (.goto 4, 3) := by decide +kernel
theorem dX2_has_16 : decode cX2_has 16 = .ok (.iconst 0, 1) := by decide +kernel
theorem dX2_has_17 : decode cX2_has 17 = .ok (.ireturn, 1) := by decide +kernel
theorem dX2_add_0 : decode cX2_add 0 = .ok (.aload_n 0, 1) := by decide +kernel
theorem dX2_add_1 : decode cX2_add 1 = .ok (.getfield 18, 3) := by decide +kernel
theorem dX2_add_4 : decode cX2_add 4 = .ok (.ifCond .lt 57, 3) := by decide +kernel
theorem dX2_add_7 : decode cX2_add 7 = .ok (.aload_n 0, 1) := by decide +kernel
theorem dX2_add_8 : decode cX2_add 8 = .ok (.getfield 18, 3) := by decide +kernel
theorem dX2_add_11 : decode cX2_add 11 = .ok (.aload_n 0, 1) := by decide +kernel
theorem dX2_add_12 : decode cX2_add 12 = .ok (.getfield 9, 3) := by decide +kernel
theorem dX2_add_15 : decode cX2_add 15 = .ok (.arraylength, 1) := by decide +kernel
theorem dX2_add_16 : decode cX2_add 16 = .ok (.if_icmp .ge 45, 3) := by decide +kernel
theorem dX2_add_19 : decode cX2_add 19 = .ok (.aload_n 0, 1) := by decide +kernel
theorem dX2_add_20 : decode cX2_add 20 = .ok (.getfield 18, 3) := by decide +kernel
theorem dX2_add_23 : decode cX2_add 23 = .ok (.aload_n 0, 1) := by decide +kernel
theorem dX2_add_24 : decode cX2_add 24 = .ok (.getfield 15, 3) := by decide +kernel
theorem dX2_add_27 : decode cX2_add 27 = .ok (.arraylength, 1) := by decide +kernel
theorem dX2_add_28 : decode cX2_add 28 = .ok (.if_icmp .ge 33, 3) := by decide +kernel
theorem dX2_add_31 : decode cX2_add 31 = .ok (.aload_n 0, 1) := by decide +kernel
theorem dX2_add_32 : decode cX2_add 32 = .ok (.getfield 9, 3) := by decide +kernel
theorem dX2_add_35 : decode cX2_add 35 = .ok (.aload_n 0, 1) := by decide +kernel
theorem dX2_add_36 : decode cX2_add 36 = .ok (.getfield 18, 3) := by decide +kernel
theorem dX2_add_39 : decode cX2_add 39 = .ok (.iload_n 1, 1) := by decide +kernel
theorem dX2_add_40 : decode cX2_add 40 = .ok (.iastore, 1) := by decide +kernel
theorem dX2_add_41 : decode cX2_add 41 = .ok (.aload_n 0, 1) := by decide +kernel
theorem dX2_add_42 : decode cX2_add 42 = .ok (.getfield 15, 3) := by decide +kernel
theorem dX2_add_45 : decode cX2_add 45 = .ok (.aload_n 0, 1) := by decide +kernel
theorem dX2_add_46 : decode cX2_add 46 = .ok (.getfield 18, 3) := by decide +kernel
theorem dX2_add_49 : decode cX2_add 49 = .ok (.iload_n 2, 1) := by decide +kernel
theorem dX2_add_50 : decode cX2_add 50 = .ok (.iastore, 1) := by decide +kernel
theorem dX2_add_51 : decode cX2_add 51 = .ok (.aload_n 0, 1) := by decide +kernel
theorem dX2_add_52 : decode cX2_add 52 = .ok (.dup, 1) := by decide +kernel
theorem dX2_add_53 : decode cX2_add 53 = .ok (.getfield 18, 3) := by decide +kernel
theorem dX2_add_56 : decode cX2_add 56 = .ok (.iconst 1, 1) := by decide +kernel
theorem dX2_add_57 : decode cX2_add 57 = .ok (.iadd, 1) := by decide +kernel
theorem dX2_add_58 : decode cX2_add 58 = .ok (.putfield 18, 3) := by decide +kernel
theorem dX2_add_61 : decode cX2_add 61 = .ok (.return_, 1) := by decide +kernel
theorem dX2_replaceAt_0 : decode cX2_replaceAt 0 = .ok (.iload_n 1, 1) := by decide +kernel
theorem dX2_replaceAt_1 : decode cX2_replaceAt 1 = .ok (.ifCond .lt 27, 3) := by decide +kernel
theorem dX2_replaceAt_4 : decode cX2_replaceAt 4 = .ok (.iload_n 1, 1) := by decide +kernel
theorem dX2_replaceAt_5 : decode cX2_replaceAt 5 = .ok (.aload_n 0, 1) := by decide +kernel
theorem dX2_replaceAt_6 : decode cX2_replaceAt 6 = .ok (.getfield 18, 3) := by decide +kernel
theorem dX2_replaceAt_9 : decode cX2_replaceAt 9 = .ok (.if_icmp .ge 19, 3) := by decide +kernel
theorem dX2_replaceAt_12 : decode cX2_replaceAt 12 = .ok (.iload_n 1, 1) := by decide +kernel
theorem dX2_replaceAt_13 : decode cX2_replaceAt 13 = .ok (.aload_n 0, 1) := by decide +kernel
theorem dX2_replaceAt_14 : decode cX2_replaceAt 14 = .ok (.getfield 9, 3) := by decide +kernel
theorem dX2_replaceAt_17 : decode cX2_replaceAt 17 = .ok (.arraylength, 1) := by decide +kernel
theorem dX2_replaceAt_18 : decode cX2_replaceAt 18 = .ok (.if_icmp .ge 10, 3) := by decide +kernel
theorem dX2_replaceAt_21 : decode cX2_replaceAt 21 = .ok (.aload_n 0, 1) := by decide +kernel
theorem dX2_replaceAt_22 : decode cX2_replaceAt 22 = .ok (.getfield 9, 3) := by decide +kernel
theorem dX2_replaceAt_25 : decode cX2_replaceAt 25 = .ok (.iload_n 1, 1) := by decide +kernel
theorem dX2_replaceAt_26 : decode cX2_replaceAt 26 = .ok (.iload_n 2, 1) := by decide +kernel
theorem dX2_replaceAt_27 : decode cX2_replaceAt 27 = .ok (.iastore, 1) := by decide +kernel
theorem dX2_replaceAt_28 : decode cX2_replaceAt 28 = .ok (.return_, 1) := by decide +kernel
theorem dX2_clear_0 : decode cX2_clear 0 = .ok (.aload_n 0, 1) := by decide +kernel
theorem dX2_clear_1 : decode cX2_clear 1 = .ok (.iconst 0, 1) := by decide +kernel
theorem dX2_clear_2 : decode cX2_clear 2 = .ok (.putfield 18, 3) := by decide +kernel
theorem dX2_clear_5 : decode cX2_clear 5 = .ok (.return_, 1) := by decide +kernel
theorem dX2_sortAt_0 : decode cX2_sortAt 0 = .ok (.iload_n 1, 1) := by decide +kernel
theorem dX2_sortAt_1 : decode cX2_sortAt 1 = .ok (.ifCond .lt 29, 3) := by decide +kernel
theorem dX2_sortAt_4 : decode cX2_sortAt 4 = .ok (.iload_n 1, 1) := by decide +kernel
theorem dX2_sortAt_5 : decode cX2_sortAt 5 = .ok (.aload_n 0, 1) := by decide +kernel
theorem dX2_sortAt_6 : decode cX2_sortAt 6 = .ok (.getfield 18, 3) := by decide +kernel
theorem dX2_sortAt_9 : decode cX2_sortAt 9 = .ok (.if_icmp .ge 21, 3) := by decide +kernel
theorem dX2_sortAt_12 : decode cX2_sortAt 12 = .ok (.iload_n 1, 1) := by decide +kernel
theorem dX2_sortAt_13 : decode cX2_sortAt 13 = .ok (.aload_n 0, 1) := by decide +kernel
theorem dX2_sortAt_14 : decode cX2_sortAt 14 = .ok (.getfield 9, 3) := by decide +kernel
theorem dX2_sortAt_17 : decode cX2_sortAt 17 = .ok (.arraylength, 1) := by decide +kernel
theorem dX2_sortAt_18 : decode cX2_sortAt 18 = .ok (.if_icmp .ge 12, 3) := by decide +kernel
theorem dX2_sortAt_21 : decode cX2_sortAt 21 = .ok (.aload_n 0, 1) := by decide +kernel
theorem dX2_sortAt_22 : decode cX2_sortAt 22 = .ok (.getfield 9, 3) := by decide +kernel
theorem dX2_sortAt_25 : decode cX2_sortAt 25 = .ok (.iload_n 1, 1) := by decide +kernel
theorem dX2_sortAt_26 : decode cX2_sortAt 26 = .ok (.iaload, 1) := by decide +kernel
theorem dX2_sortAt_27 : decode cX2_sortAt 27 = .ok (.goto 4, 3) := by decide +kernel
theorem dX2_sortAt_30 : decode cX2_sortAt 30 = .ok (.iconst (-1), 1) := by decide +kernel
theorem dX2_sortAt_31 : decode cX2_sortAt 31 = .ok (.ireturn, 1) := by decide +kernel
theorem dX2_letterAt_0 : decode cX2_letterAt 0 = .ok (.iload_n 1, 1) := by decide +kernel
theorem dX2_letterAt_1 : decode cX2_letterAt 1 = .ok (.ifCond .lt 29, 3) := by decide +kernel
theorem dX2_letterAt_4 : decode cX2_letterAt 4 = .ok (.iload_n 1, 1) := by decide +kernel
theorem dX2_letterAt_5 : decode cX2_letterAt 5 = .ok (.aload_n 0, 1) := by decide +kernel
theorem dX2_letterAt_6 : decode cX2_letterAt 6 = .ok (.getfield 18, 3) := by decide +kernel
theorem dX2_letterAt_9 : decode cX2_letterAt 9 = .ok (.if_icmp .ge 21, 3) := by decide +kernel
theorem dX2_letterAt_12 : decode cX2_letterAt 12 = .ok (.iload_n 1, 1) := by decide +kernel
theorem dX2_letterAt_13 : decode cX2_letterAt 13 = .ok (.aload_n 0, 1) := by decide +kernel
theorem dX2_letterAt_14 : decode cX2_letterAt 14 = .ok (.getfield 15, 3) := by decide +kernel
theorem dX2_letterAt_17 : decode cX2_letterAt 17 = .ok (.arraylength, 1) := by decide +kernel
theorem dX2_letterAt_18 : decode cX2_letterAt 18 = .ok (.if_icmp .ge 12, 3) := by decide +kernel
theorem dX2_letterAt_21 : decode cX2_letterAt 21 = .ok (.aload_n 0, 1) := by decide +kernel
theorem dX2_letterAt_22 : decode cX2_letterAt 22 = .ok (.getfield 15, 3) := by decide +kernel
theorem dX2_letterAt_25 : decode cX2_letterAt 25 = .ok (.iload_n 1, 1) := by decide +kernel
theorem dX2_letterAt_26 : decode cX2_letterAt 26 = .ok (.iaload, 1) := by decide +kernel
theorem dX2_letterAt_27 : decode cX2_letterAt 27 = .ok (.goto 4, 3) := by decide +kernel
theorem dX2_letterAt_30 : decode cX2_letterAt 30 = .ok (.iconst (-1), 1) := by decide +kernel
theorem dX2_letterAt_31 : decode cX2_letterAt 31 = .ok (.ireturn, 1) := by decide +kernel
set_option maxRecDepth 20000 in
theorem ggX2_isWrongAt_X2_sortAt : GoodIn wsX2_isWrongAt wsX2_sortAt := goodIn_r _ [5, 6, 7, 13, 14, 15] (by decide +kernel) (by decide +kernel)
set_option maxRecDepth 20000 in
theorem gX2_isWrongAt_X2_sortAt : GoodIn wsX2_isWrongAt (wsV RX2 22 RX2 yX2_sortAt wsX2_sortAt) := goodIn_app (goodIn_of _ (by decide +kernel)) ggX2_isWrongAt_X2_sortAt
set_option maxRecDepth 20000 in
theorem ggX2_isWrongAt_X2_letterAt : GoodIn wsX2_isWrongAt wsX2_letterAt := goodIn_r _ [11, 6, 12, 13, 14, 15] (by decide +kernel) (by decide +kernel)
set_option maxRecDepth 20000 in
theorem gX2_isWrongAt_X2_letterAt : GoodIn wsX2_isWrongAt (wsV RX2 26 RX2 yX2_letterAt wsX2_letterAt) := goodIn_app (goodIn_of _ (by decide +kernel)) ggX2_isWrongAt_X2_letterAt
theorem dX2_isWrongAt_0 : decode cX2_isWrongAt 0 = .ok (.aload_n 0, 1) := by decide +kernel
theorem dX2_isWrongAt_1 : decode cX2_isWrongAt 1 = .ok (.iload_n 1, 1) := by decide +kernel
theorem dX2_isWrongAt_2 : decode cX2_isWrongAt 2 = .ok (.invokevirtual 22, 3) := by decide +kernel
theorem dX2_isWrongAt_5 : decode cX2_isWrongAt 5 = .ok (.aload_n 0, 1) := by decide +kernel
theorem dX2_isWrongAt_6 : decode cX2_isWrongAt 6 = .ok (.iload_n 1, 1) := by decide +kernel
theorem dX2_isWrongAt_7 : decode cX2_isWrongAt 7 = .ok (.invokevirtual 26, 3) := by decide +kernel
theorem dX2_isWrongAt_10 : decode cX2_isWrongAt 10 = .ok (.if_icmp .eq 7, 3) := by decide +kernel
theorem dX2_isWrongAt_13 : decode cX2_isWrongAt 13 = .ok (.iconst 1, 1) := by decide +kernel
theorem dX2_isWrongAt_14 : decode cX2_isWrongAt 14 = .ok (.goto 4, 3) := by decide +kernel
theorem dX2_isWrongAt_17 : decode cX2_isWrongAt 17 = .ok (.iconst 0, 1) := by decide +kernel
theorem dX2_isWrongAt_18 : decode cX2_isWrongAt 18 = .ok (.ireturn, 1) := by decide +kernel
set_option maxRecDepth 20000 in
theorem ggX2_errors_X2_isWrongAt : GoodIn wsX2_errors wsX2_isWrongAt := goodIn_r _ [6, 7, 8, 9, 5, 10, 1, 11, 12, 13, 14, 15, 16, 17, 18, 19] (by decide +kernel) (by decide +kernel)
set_option maxRecDepth 20000 in
theorem gX2_errors_X2_isWrongAt : GoodIn wsX2_errors (wsV RX2 29 RX2 yX2_isWrongAt wsX2_isWrongAt) := goodIn_app (goodIn_of _ (by decide +kernel)) ggX2_errors_X2_isWrongAt
theorem dX2_errors_0 : decode cX2_errors 0 = .ok (.iconst 0, 1) := by decide +kernel
theorem dX2_errors_1 : decode cX2_errors 1 = .ok (.istore_n 1, 1) := by decide +kernel
theorem dX2_errors_2 : decode cX2_errors 2 = .ok (.iconst 0, 1) := by decide +kernel
theorem dX2_errors_3 : decode cX2_errors 3 = .ok (.istore_n 2, 1) := by decide +kernel
theorem dX2_errors_4 : decode cX2_errors 4 = .ok (.iload_n 2, 1) := by decide +kernel
theorem dX2_errors_5 : decode cX2_errors 5 = .ok (.aload_n 0, 1) := by decide +kernel
theorem dX2_errors_6 : decode cX2_errors 6 = .ok (.getfield 18, 3) := by decide +kernel
theorem dX2_errors_9 : decode cX2_errors 9 = .ok (.if_icmp .ge 20, 3) := by decide +kernel
theorem dX2_errors_12 : decode cX2_errors 12 = .ok (.aload_n 0, 1) := by decide +kernel
theorem dX2_errors_13 : decode cX2_errors 13 = .ok (.iload_n 2, 1) := by decide +kernel
theorem dX2_errors_14 : decode cX2_errors 14 = .ok (.invokevirtual 29, 3) := by decide +kernel
theorem dX2_errors_17 : decode cX2_errors 17 = .ok (.ifCond .eq 6, 3) := by decide +kernel
theorem dX2_errors_20 : decode cX2_errors 20 = .ok (.iinc 1 1, 3) := by decide +kernel
theorem dX2_errors_23 : decode cX2_errors 23 = .ok (.iinc 2 1, 3) := by decide +kernel
theorem dX2_errors_26 : decode cX2_errors 26 = .ok (.goto (-22), 3) := by decide +kernel
theorem dX2_errors_29 : decode cX2_errors 29 = .ok (.iload_n 1, 1) := by decide +kernel
theorem dX2_errors_30 : decode cX2_errors 30 = .ok (.ireturn, 1) := by decide +kernel
set_option maxRecDepth 20000 in
theorem ggX2_countOf_X2_sortAt : GoodIn wsX2_countOf wsX2_sortAt := goodIn_r _ [6, 1, 7, 8, 9, 10] (by decide +kernel) (by decide +kernel)
set_option maxRecDepth 20000 in
theorem gX2_countOf_X2_sortAt : GoodIn wsX2_countOf (wsV RX2 22 RX2 yX2_sortAt wsX2_sortAt) := goodIn_app (goodIn_of _ (by decide +kernel)) ggX2_countOf_X2_sortAt
theorem dX2_countOf_0 : decode cX2_countOf 0 = .ok (.iconst 0, 1) := by decide +kernel
theorem dX2_countOf_1 : decode cX2_countOf 1 = .ok (.istore_n 2, 1) := by decide +kernel
theorem dX2_countOf_2 : decode cX2_countOf 2 = .ok (.iconst 0, 1) := by decide +kernel
theorem dX2_countOf_3 : decode cX2_countOf 3 = .ok (.istore_n 3, 1) := by decide +kernel
theorem dX2_countOf_4 : decode cX2_countOf 4 = .ok (.iload_n 3, 1) := by decide +kernel
theorem dX2_countOf_5 : decode cX2_countOf 5 = .ok (.aload_n 0, 1) := by decide +kernel
theorem dX2_countOf_6 : decode cX2_countOf 6 = .ok (.getfield 18, 3) := by decide +kernel
theorem dX2_countOf_9 : decode cX2_countOf 9 = .ok (.if_icmp .ge 21, 3) := by decide +kernel
theorem dX2_countOf_12 : decode cX2_countOf 12 = .ok (.aload_n 0, 1) := by decide +kernel
theorem dX2_countOf_13 : decode cX2_countOf 13 = .ok (.iload_n 3, 1) := by decide +kernel
theorem dX2_countOf_14 : decode cX2_countOf 14 = .ok (.invokevirtual 22, 3) := by decide +kernel
theorem dX2_countOf_17 : decode cX2_countOf 17 = .ok (.iload_n 1, 1) := by decide +kernel
theorem dX2_countOf_18 : decode cX2_countOf 18 = .ok (.if_icmp .ne 6, 3) := by decide +kernel
theorem dX2_countOf_21 : decode cX2_countOf 21 = .ok (.iinc 2 1, 3) := by decide +kernel
theorem dX2_countOf_24 : decode cX2_countOf 24 = .ok (.iinc 3 1, 3) := by decide +kernel
theorem dX2_countOf_27 : decode cX2_countOf 27 = .ok (.goto (-23), 3) := by decide +kernel
theorem dX2_countOf_30 : decode cX2_countOf 30 = .ok (.iload_n 2, 1) := by decide +kernel
theorem dX2_countOf_31 : decode cX2_countOf 31 = .ok (.ireturn, 1) := by decide +kernel
set_option maxRecDepth 20000 in
theorem ggX2_nextPosition_X2_sortAt : GoodIn wsX2_nextPosition wsX2_sortAt := goodIn_r _ [6, 1, 7, 11, 12, 13] (by decide +kernel) (by decide +kernel)
set_option maxRecDepth 20000 in
theorem gX2_nextPosition_X2_sortAt : GoodIn wsX2_nextPosition (wsV RX2 22 RX2 yX2_sortAt wsX2_sortAt) := goodIn_app (goodIn_of _ (by decide +kernel)) ggX2_nextPosition_X2_sortAt
set_option maxRecDepth 20000 in
theorem ggX2_nextPosition_X6_widthOf : GoodIn wsX2_nextPosition wsX6_widthOf := goodIn_r _ [10] (by decide +kernel) (by decide +kernel)
set_option maxRecDepth 20000 in
theorem gX2_nextPosition_X6_widthOf_n33 : GoodIn wsX2_nextPosition (wsX6_widthOf) := ggX2_nextPosition_X6_widthOf
theorem dX2_nextPosition_0 : decode cX2_nextPosition 0 = .ok (.iconst 0, 1) := by decide +kernel
theorem dX2_nextPosition_1 : decode cX2_nextPosition 1 = .ok (.istore_n 1, 1) := by decide +kernel
theorem dX2_nextPosition_2 : decode cX2_nextPosition 2 = .ok (.iconst 0, 1) := by decide +kernel
theorem dX2_nextPosition_3 : decode cX2_nextPosition 3 = .ok (.istore_n 2, 1) := by decide +kernel
theorem dX2_nextPosition_4 : decode cX2_nextPosition 4 = .ok (.iload_n 2, 1) := by decide +kernel
theorem dX2_nextPosition_5 : decode cX2_nextPosition 5 = .ok (.aload_n 0, 1) := by decide +kernel
theorem dX2_nextPosition_6 : decode cX2_nextPosition 6 = .ok (.getfield 18, 3) := by decide +kernel
theorem dX2_nextPosition_9 : decode cX2_nextPosition 9 = .ok (.if_icmp .ge 22, 3) := by decide +kernel
theorem dX2_nextPosition_12 : decode cX2_nextPosition 12 = .ok (.iload_n 1, 1) := by decide +kernel
theorem dX2_nextPosition_13 : decode cX2_nextPosition 13 = .ok (.aload_n 0, 1) := by decide +kernel
theorem dX2_nextPosition_14 : decode cX2_nextPosition 14 = .ok (.iload_n 2, 1) := by decide +kernel
theorem dX2_nextPosition_15 : decode cX2_nextPosition 15 = .ok (.invokevirtual 22, 3) := by decide +kernel
theorem dX2_nextPosition_18 : decode cX2_nextPosition 18 = .ok (.invokestatic 33, 3) := by decide +kernel
theorem dX2_nextPosition_21 : decode cX2_nextPosition 21 = .ok (.iconst 1, 1) := by decide +kernel
theorem dX2_nextPosition_22 : decode cX2_nextPosition 22 = .ok (.iadd, 1) := by decide +kernel
theorem dX2_nextPosition_23 : decode cX2_nextPosition 23 = .ok (.iadd, 1) := by decide +kernel
theorem dX2_nextPosition_24 : decode cX2_nextPosition 24 = .ok (.istore_n 1, 1) := by decide +kernel
theorem dX2_nextPosition_25 : decode cX2_nextPosition 25 = .ok (.iinc 2 1, 3) := by decide +kernel
theorem dX2_nextPosition_28 : decode cX2_nextPosition 28 = .ok (.goto (-24), 3) := by decide +kernel
theorem dX2_nextPosition_31 : decode cX2_nextPosition 31 = .ok (.iload_n 1, 1) := by decide +kernel
theorem dX2_nextPosition_32 : decode cX2_nextPosition 32 = .ok (.ireturn, 1) := by decide +kernel
set_option maxRecDepth 20000 in
theorem ggX2_width_X2_nextPosition : GoodIn wsX2_width wsX2_nextPosition := goodIn_r _ [6, 1, 7, 8, 9, 5, 10, 11, 12, 13, 14, 15, 16, 17] (by decide +kernel) (by decide +kernel)
set_option maxRecDepth 20000 in
theorem gX2_width_X2_nextPosition : GoodIn wsX2_width (wsV RX2 36 RX2 yX2_nextPosition wsX2_nextPosition) := goodIn_app (goodIn_of _ (by decide +kernel)) ggX2_width_X2_nextPosition
theorem dX2_width_0 : decode cX2_width 0 = .ok (.aload_n 0, 1) := by decide +kernel
theorem dX2_width_1 : decode cX2_width 1 = .ok (.getfield 18, 3) := by decide +kernel
theorem dX2_width_4 : decode cX2_width 4 = .ok (.ifCond .le 12, 3) := by decide +kernel
theorem dX2_width_7 : decode cX2_width 7 = .ok (.aload_n 0, 1) := by decide +kernel
theorem dX2_width_8 : decode cX2_width 8 = .ok (.invokevirtual 36, 3) := by decide +kernel
theorem dX2_width_11 : decode cX2_width 11 = .ok (.iconst 1, 1) := by decide +kernel
theorem dX2_width_12 : decode cX2_width 12 = .ok (.isub, 1) := by decide +kernel
theorem dX2_width_13 : decode cX2_width 13 = .ok (.goto 4, 3) := by decide +kernel
theorem dX2_width_16 : decode cX2_width 16 = .ok (.iconst 0, 1) := by decide +kernel
theorem dX2_width_17 : decode cX2_width 17 = .ok (.ireturn, 1) := by decide +kernel
