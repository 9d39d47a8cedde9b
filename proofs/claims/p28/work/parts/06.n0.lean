set_option maxRecDepth 20000 in
theorem ggX0_init_X0_put : GoodIn wsX0_init wsX0_put := goodIn_r _ [12, 6, 5, 13, 14, 15] (by decide +kernel) (by decide +kernel)
set_option maxRecDepth 20000 in
theorem gX0_init_X0_put : GoodIn wsX0_init (wsV RX0 22 RX0 yX0_put wsX0_put) := goodIn_app (goodIn_of _ (by decide +kernel)) ggX0_init_X0_put
theorem dX0_init_0 : decode cX0_init 0 = .ok (.aload_n 0, 1) := by decide +kernel
theorem dX0_init_1 : decode cX0_init 1 = .ok (.invokespecial 3, 3) := by decide +kernel
theorem dX0_init_4 : decode cX0_init 4 = .ok (.aload_n 0, 1) := by decide +kernel
theorem dX0_init_5 : decode cX0_init 5 = .ok (.sipush 240, 3) := by decide +kernel
theorem dX0_init_8 : decode cX0_init 8 = .ok (.newarray .int, 2) := by decide +kernel
theorem dX0_init_10 : decode cX0_init 10 = .ok (.putfield 9, 3) := by decide +kernel
theorem dX0_init_13 : decode cX0_init 13 = .ok (.aload_n 0, 1) := by decide +kernel
theorem dX0_init_14 : decode cX0_init 14 = .ok (.bipush 12, 2) := by decide +kernel
theorem dX0_init_16 : decode cX0_init 16 = .ok (.newarray .int, 2) := by decide +kernel
theorem dX0_init_18 : decode cX0_init 18 = .ok (.putfield 15, 3) := by decide +kernel
theorem dX0_init_21 : decode cX0_init 21 = .ok (.aload_n 0, 1) := by decide +kernel
theorem dX0_init_22 : decode cX0_init 22 = .ok (.iconst 0, 1) := by decide +kernel
theorem dX0_init_23 : decode cX0_init 23 = .ok (.putfield 18, 3) := by decide +kernel
theorem dX0_init_26 : decode cX0_init 26 = .ok (.iconst 0, 1) := by decide +kernel
theorem dX0_init_27 : decode cX0_init 27 = .ok (.istore_n 1, 1) := by decide +kernel
theorem dX0_init_28 : decode cX0_init 28 = .ok (.iload_n 1, 1) := by decide +kernel
theorem dX0_init_29 : decode cX0_init 29 = .ok (.bipush 12, 2) := by decide +kernel
theorem dX0_init_31 : decode cX0_init 31 = .ok (.if_icmp .ge 29, 3) := by decide +kernel
theorem dX0_init_34 : decode cX0_init 34 = .ok (.iconst 0, 1) := by decide +kernel
theorem dX0_init_35 : decode cX0_init 35 = .ok (.istore_n 2, 1) := by decide +kernel
theorem dX0_init_36 : decode cX0_init 36 = .ok (.iload_n 2, 1) := by decide +kernel
theorem dX0_init_37 : decode cX0_init 37 = .ok (.bipush 6, 2) := by decide +kernel
theorem dX0_init_39 : decode cX0_init 39 = .ok (.if_icmp .ge 15, 3) := by decide +kernel
theorem dX0_init_42 : decode cX0_init 42 = .ok (.aload_n 0, 1) := by decide +kernel
theorem dX0_init_43 : decode cX0_init 43 = .ok (.iload_n 1, 1) := by decide +kernel
theorem dX0_init_44 : decode cX0_init 44 = .ok (.iload_n 1, 1) := by decide +kernel
theorem dX0_init_45 : decode cX0_init 45 = .ok (.invokevirtual 22, 3) := by decide +kernel
theorem dX0_init_48 : decode cX0_init 48 = .ok (.iinc 2 1, 3) := by decide +kernel
theorem dX0_init_51 : decode cX0_init 51 = .ok (.goto (-15), 3) := by decide +kernel
theorem dX0_init_54 : decode cX0_init 54 = .ok (.iinc 1 1, 3) := by decide +kernel
theorem dX0_init_57 : decode cX0_init 57 = .ok (.goto (-29), 3) := by decide +kernel
theorem dX0_init_60 : decode cX0_init 60 = .ok (.return_, 1) := by decide +kernel
theorem dX0_copyFrom_0 : decode cX0_copyFrom 0 = .ok (.iconst 0, 1) := by decide +kernel
theorem dX0_copyFrom_1 : decode cX0_copyFrom 1 = .ok (.istore_n 2, 1) := by decide +kernel
theorem dX0_copyFrom_2 : decode cX0_copyFrom 2 = .ok (.iload_n 2, 1) := by decide +kernel
theorem dX0_copyFrom_3 : decode cX0_copyFrom 3 = .ok (.aload_n 0, 1) := by decide +kernel
theorem dX0_copyFrom_4 : decode cX0_copyFrom 4 = .ok (.getfield 9, 3) := by decide +kernel
theorem dX0_copyFrom_7 : decode cX0_copyFrom 7 = .ok (.arraylength, 1) := by decide +kernel
theorem dX0_copyFrom_8 : decode cX0_copyFrom 8 = .ok (.if_icmp .ge 30, 3) := by decide +kernel
theorem dX0_copyFrom_11 : decode cX0_copyFrom 11 = .ok (.iload_n 2, 1) := by decide +kernel
theorem dX0_copyFrom_12 : decode cX0_copyFrom 12 = .ok (.aload_n 1, 1) := by decide +kernel
theorem dX0_copyFrom_13 : decode cX0_copyFrom 13 = .ok (.getfield 9, 3) := by decide +kernel
theorem dX0_copyFrom_16 : decode cX0_copyFrom 16 = .ok (.arraylength, 1) := by decide +kernel
theorem dX0_copyFrom_17 : decode cX0_copyFrom 17 = .ok (.if_icmp .ge 21, 3) := by decide +kernel
theorem dX0_copyFrom_20 : decode cX0_copyFrom 20 = .ok (.aload_n 0, 1) := by decide +kernel
theorem dX0_copyFrom_21 : decode cX0_copyFrom 21 = .ok (.getfield 9, 3) := by decide +kernel
theorem dX0_copyFrom_24 : decode cX0_copyFrom 24 = .ok (.iload_n 2, 1) := by decide +kernel
theorem dX0_copyFrom_25 : decode cX0_copyFrom 25 = .ok (.aload_n 1, 1) := by decide +kernel
theorem dX0_copyFrom_26 : decode cX0_copyFrom 26 = .ok (.getfield 9, 3) := by decide +kernel
theorem dX0_copyFrom_29 : decode cX0_copyFrom 29 = .ok (.iload_n 2, 1) := by decide +kernel
theorem dX0_copyFrom_30 : decode cX0_copyFrom 30 = .ok (.iaload, 1) := by decide +kernel
theorem dX0_copyFrom_31 : decode cX0_copyFrom 31 = .ok (.iastore, 1) := by decide +kernel
theorem dX0_copyFrom_32 : decode cX0_copyFrom 32 = .ok (.iinc 2 1, 3) := by decide +kernel
theorem dX0_copyFrom_35 : decode cX0_copyFrom 35 = .ok (.goto (-33), 3) := by decide +kernel
theorem dX0_copyFrom_38 : decode cX0_copyFrom 38 = .ok (.iconst 0, 1) := by decide +kernel
theorem dX0_copyFrom_39 : decode cX0_copyFrom 39 = .ok (.istore_n 2, 1) := by decide +kernel
theorem dX0_copyFrom_40 : decode cX0_copyFrom 40 = .ok (.iload_n 2, 1) := by decide +kernel
theorem dX0_copyFrom_41 : decode cX0_copyFrom 41 = .ok (.aload_n 0, 1) := by decide +kernel
theorem dX0_copyFrom_42 : decode cX0_copyFrom 42 = .ok (.getfield 15, 3) := by decide +kernel
theorem dX0_copyFrom_45 : decode cX0_copyFrom 45 = .ok (.arraylength, 1) := by decide +kernel
theorem dX0_copyFrom_46 : decode cX0_copyFrom 46 = .ok (.if_icmp .ge 30, 3) := by decide +kernel
theorem dX0_copyFrom_49 : decode cX0_copyFrom 49 = .ok (.iload_n 2, 1) := by decide +kernel
theorem dX0_copyFrom_50 : decode cX0_copyFrom 50 = .ok (.aload_n 1, 1) := by decide +kernel
theorem dX0_copyFrom_51 : decode cX0_copyFrom 51 = .ok (.getfield 15, 3) := by decide +kernel
theorem dX0_copyFrom_54 : decode cX0_copyFrom 54 = .ok (.arraylength, 1) := by decide +kernel
theorem dX0_copyFrom_55 : decode cX0_copyFrom 55 = .ok (.if_icmp .ge 21, 3) := by decide +kernel
theorem dX0_copyFrom_58 : decode cX0_copyFrom 58 = .ok (.aload_n 0, 1) := by decide +kernel
theorem dX0_copyFrom_59 : decode cX0_copyFrom 59 = .ok (.getfield 15, 3) := by decide +kernel
theorem dX0_copyFrom_62 : decode cX0_copyFrom 62 = .ok (.iload_n 2, 1) := by decide +kernel
theorem dX0_copyFrom_63 : decode cX0_copyFrom 63 = .ok (.aload_n 1, 1) := by decide +kernel
theorem dX0_copyFrom_64 : decode cX0_copyFrom 64 = .ok (.getfield 15, 3) := by decide +kernel
theorem dX0_copyFrom_67 : decode cX0_copyFrom 67 = .ok (.iload_n 2, 1) := by decide +kernel
theorem dX0_copyFrom_68 : decode cX0_copyFrom 68 = .ok (.iaload, 1) := by decide +kernel
theorem dX0_copyFrom_69 : decode cX0_copyFrom 69 = .ok (.iastore, 1) := by decide +kernel
theorem dX0_copyFrom_70 : decode cX0_copyFrom 70 = .ok (.iinc 2 1, 3) := by decide +kernel
theorem dX0_copyFrom_73 : decode cX0_copyFrom 73 = .ok (.goto (-33), 3) := by decide +kernel
theorem dX0_copyFrom_76 : decode cX0_copyFrom 76 = .ok (.aload_n 0, 1) := by decide +kernel
theorem dX0_copyFrom_77 : decode cX0_copyFrom 77 = .ok (.aload_n 1, 1) := by decide +kernel
theorem dX0_copyFrom_78 : decode cX0_copyFrom 78 = .ok (.getfield 18, 3) := by decide +kernel
theorem dX0_copyFrom_81 : decode cX0_copyFrom 81 = .ok (.putfield 18, 3) := by decide +kernel
theorem dX0_copyFrom_84 : decode cX0_copyFrom 84 = .ok (.return_, 1) := by decide +kernel
theorem dX0_heightOf_0 : decode cX0_heightOf 0 = .ok (.iload_n 1, 1) := by decide +kernel
theorem dX0_heightOf_1 : decode cX0_heightOf 1 = .ok (.ifCond .lt 21, 3) := by decide +kernel
theorem dX0_heightOf_4 : decode cX0_heightOf 4 = .ok (.iload_n 1, 1) := by decide +kernel
theorem dX0_heightOf_5 : decode cX0_heightOf 5 = .ok (.aload_n 0, 1) := by decide +kernel
theorem dX0_heightOf_6 : decode cX0_heightOf 6 = .ok (.getfield 15, 3) := by decide +kernel
theorem dX0_heightOf_9 : decode cX0_heightOf 9 = .ok (.arraylength, 1) := by decide +kernel
theorem dX0_heightOf_10 : decode cX0_heightOf 10 = .ok (.if_icmp .ge 12, 3) := by decide +kernel
theorem dX0_heightOf_13 : decode cX0_heightOf 13 = .ok (.aload_n 0, 1) := by decide +kernel
theorem dX0_heightOf_14 : decode cX0_heightOf 14 = .ok (.getfield 15, 3) := by decide +kernel
theorem dX0_heightOf_17 : decode cX0_heightOf 17 = .ok (.iload_n 1, 1) := by decide +kernel
theorem dX0_heightOf_18 : decode cX0_heightOf 18 = .ok (.iaload, 1) := by decide +kernel
theorem dX0_heightOf_19 : decode cX0_heightOf 19 = .ok (.goto 4, 3) := by decide +kernel
theorem dX0_heightOf_22 : decode cX0_heightOf 22 = .ok (.iconst 0, 1) := by decide +kernel
theorem dX0_heightOf_23 : decode cX0_heightOf 23 = .ok (.ireturn, 1) := by decide +kernel
theorem dX0_hasRoom_0 : decode cX0_hasRoom 0 = .ok (.iload_n 1, 1) := by decide +kernel
theorem dX0_hasRoom_1 : decode cX0_hasRoom 1 = .ok (.ifCond .lt 27, 3) := by decide +kernel
theorem dX0_hasRoom_4 : decode cX0_hasRoom 4 = .ok (.iload_n 1, 1) := by decide +kernel
theorem dX0_hasRoom_5 : decode cX0_hasRoom 5 = .ok (.aload_n 0, 1) := by decide +kernel
theorem dX0_hasRoom_6 : decode cX0_hasRoom 6 = .ok (.getfield 15, 3) := by decide +kernel
theorem dX0_hasRoom_9 : decode cX0_hasRoom 9 = .ok (.arraylength, 1) := by decide +kernel
theorem dX0_hasRoom_10 : decode cX0_hasRoom 10 = .ok (.if_icmp .ge 18, 3) := by decide +kernel
theorem dX0_hasRoom_13 : decode cX0_hasRoom 13 = .ok (.aload_n 0, 1) := by decide +kernel
theorem dX0_hasRoom_14 : decode cX0_hasRoom 14 = .ok (.getfield 15, 3) := by decide +kernel
theorem dX0_hasRoom_17 : decode cX0_hasRoom 17 = .ok (.iload_n 1, 1) := by decide +kernel
theorem dX0_hasRoom_18 : decode cX0_hasRoom 18 = .ok (.iaload, 1) := by decide +kernel
theorem dX0_hasRoom_19 : decode cX0_hasRoom 19 = .ok (.bipush 20, 2) := by decide +kernel
theorem dX0_hasRoom_21 : decode cX0_hasRoom 21 = .ok (.if_icmp .ge 7, 3) := by decide +kernel
theorem dX0_hasRoom_24 : decode cX0_hasRoom 24 = .ok (.iconst 1, 1) := by decide +kernel
theorem dX0_hasRoom_25 : decode cX0_hasRoom 25 = .ok (.goto 4, 3) := by decide +kernel
theorem dX0_hasRoom_28 : decode cX0_hasRoom 28 = .ok (.iconst 0, 1) := by decide +kernel
theorem dX0_hasRoom_29 : decode cX0_hasRoom 29 = .ok (.ireturn, 1) := by decide +kernel
theorem dX0_typeAt_0 : decode cX0_typeAt 0 = .ok (.iload_n 1, 1) := by decide +kernel
theorem dX0_typeAt_1 : decode cX0_typeAt 1 = .ok (.ifCond .lt 26, 3) := by decide +kernel
theorem dX0_typeAt_4 : decode cX0_typeAt 4 = .ok (.iload_n 1, 1) := by decide +kernel
theorem dX0_typeAt_5 : decode cX0_typeAt 5 = .ok (.aload_n 0, 1) := by decide +kernel
theorem dX0_typeAt_6 : decode cX0_typeAt 6 = .ok (.getfield 15, 3) := by decide +kernel
theorem dX0_typeAt_9 : decode cX0_typeAt 9 = .ok (.arraylength, 1) := by decide +kernel
theorem dX0_typeAt_10 : decode cX0_typeAt 10 = .ok (.if_icmp .ge 17, 3) := by decide +kernel
theorem dX0_typeAt_13 : decode cX0_typeAt 13 = .ok (.iload_n 2, 1) := by decide +kernel
theorem dX0_typeAt_14 : decode cX0_typeAt 14 = .ok (.ifCond .lt 13, 3) := by decide +kernel
theorem dX0_typeAt_17 : decode cX0_typeAt 17 = .ok (.iload_n 2, 1) := by decide +kernel
theorem dX0_typeAt_18 : decode cX0_typeAt 18 = .ok (.aload_n 0, 1) := by decide +kernel
theorem dX0_typeAt_19 : decode cX0_typeAt 19 = .ok (.getfield 15, 3) := by decide +kernel
theorem dX0_typeAt_22 : decode cX0_typeAt 22 = .ok (.iload_n 1, 1) := by decide +kernel
theorem dX0_typeAt_23 : decode cX0_typeAt 23 = .ok (.iaload, 1) := by decide +kernel
theorem dX0_typeAt_24 : decode cX0_typeAt 24 = .ok (.if_icmp .lt 5, 3) := by decide +kernel
theorem dX0_typeAt_27 : decode cX0_typeAt 27 = .ok (.iconst (-1), 1) := by decide +kernel
theorem dX0_typeAt_28 : decode cX0_typeAt 28 = .ok (.ireturn, 1) := by decide +kernel
theorem dX0_typeAt_29 : decode cX0_typeAt 29 = .ok (.iload_n 1, 1) := by decide +kernel
theorem dX0_typeAt_30 : decode cX0_typeAt 30 = .ok (.bipush 20, 2) := by decide +kernel
theorem dX0_typeAt_32 : decode cX0_typeAt 32 = .ok (.imul, 1) := by decide +kernel
theorem dX0_typeAt_33 : decode cX0_typeAt 33 = .ok (.aload_n 0, 1) := by decide +kernel
theorem dX0_typeAt_34 : decode cX0_typeAt 34 = .ok (.getfield 15, 3) := by decide +kernel
theorem dX0_typeAt_37 : decode cX0_typeAt 37 = .ok (.iload_n 1, 1) := by decide +kernel
theorem dX0_typeAt_38 : decode cX0_typeAt 38 = .ok (.iaload, 1) := by decide +kernel
theorem dX0_typeAt_39 : decode cX0_typeAt 39 = .ok (.iadd, 1) := by decide +kernel
theorem dX0_typeAt_40 : decode cX0_typeAt 40 = .ok (.iconst 1, 1) := by decide +kernel
theorem dX0_typeAt_41 : decode cX0_typeAt 41 = .ok (.isub, 1) := by decide +kernel
theorem dX0_typeAt_42 : decode cX0_typeAt 42 = .ok (.iload_n 2, 1) := by decide +kernel
theorem dX0_typeAt_43 : decode cX0_typeAt 43 = .ok (.isub, 1) := by decide +kernel
theorem dX0_typeAt_44 : decode cX0_typeAt 44 = .ok (.istore_n 3, 1) := by decide +kernel
theorem dX0_typeAt_45 : decode cX0_typeAt 45 = .ok (.iload_n 3, 1) := by decide +kernel
theorem dX0_typeAt_46 : decode cX0_typeAt 46 = .ok (.ifCond .lt 21, 3) := by decide +kernel
theorem dX0_typeAt_49 : decode cX0_typeAt 49 = .ok (.iload_n 3, 1) := by decide +kernel
theorem dX0_typeAt_50 : decode cX0_typeAt 50 = .ok (.aload_n 0, 1) := by decide +kernel
theorem dX0_typeAt_51 : decode cX0_typeAt 51 = .ok (.getfield 9, 3) := by decide +kernel
theorem dX0_typeAt_54 : decode cX0_typeAt 54 = .ok (.arraylength, 1) := by decide +kernel
theorem dX0_typeAt_55 : decode cX0_typeAt 55 = .ok (.if_icmp .ge 12, 3) := by decide +kernel
theorem dX0_typeAt_58 : decode cX0_typeAt 58 = .ok (.aload_n 0, 1) := by decide +kernel
theorem dX0_typeAt_59 : decode cX0_typeAt 59 = .ok (.getfield 9, 3) := by decide +kernel
theorem dX0_typeAt_62 : decode cX0_typeAt 62 = .ok (.iload_n 3, 1) := by decide +kernel
theorem dX0_typeAt_63 : decode cX0_typeAt 63 = .ok (.iaload, 1) := by decide +kernel
theorem dX0_typeAt_64 : decode cX0_typeAt 64 = .ok (.goto 4, 3) := by decide +kernel
theorem dX0_typeAt_67 : decode cX0_typeAt 67 = .ok (.iconst (-1), 1) := by decide +kernel
theorem dX0_typeAt_68 : decode cX0_typeAt 68 = .ok (.ireturn, 1) := by decide +kernel
theorem dX0_put_0 : decode cX0_put 0 = .ok (.iload_n 1, 1) := by decide +kernel
theorem dX0_put_1 : decode cX0_put 1 = .ok (.ifCond .lt 23, 3) := by decide +kernel
theorem dX0_put_4 : decode cX0_put 4 = .ok (.iload_n 1, 1) := by decide +kernel
theorem dX0_put_5 : decode cX0_put 5 = .ok (.aload_n 0, 1) := by decide +kernel
theorem dX0_put_6 : decode cX0_put 6 = .ok (.getfield 15, 3) := by decide +kernel
theorem dX0_put_9 : decode cX0_put 9 = .ok (.arraylength, 1) := by decide +kernel
theorem dX0_put_10 : decode cX0_put 10 = .ok (.if_icmp .ge 14, 3) := by decide +kernel
theorem dX0_put_13 : decode cX0_put 13 = .ok (.aload_n 0, 1) := by decide +kernel
theorem dX0_put_14 : decode cX0_put 14 = .ok (.getfield 15, 3) := by decide +kernel
theorem dX0_put_17 : decode cX0_put 17 = .ok (.iload_n 1, 1) := by decide +kernel
theorem dX0_put_18 : decode cX0_put 18 = .ok (.iaload, 1) := by decide +kernel
theorem dX0_put_19 : decode cX0_put 19 = .ok (.bipush 20, 2) := by decide +kernel
theorem dX0_put_21 : decode cX0_put 21 = .ok (.if_icmp .lt 4, 3) := by decide +kernel
theorem dX0_put_24 : decode cX0_put 24 = .ok (.return_, 1) := by decide +kernel
theorem dX0_put_25 : decode cX0_put 25 = .ok (.iload_n 1, 1) := by decide +kernel
theorem dX0_put_26 : decode cX0_put 26 = .ok (.bipush 20, 2) := by decide +kernel
theorem dX0_put_28 : decode cX0_put 28 = .ok (.imul, 1) := by decide +kernel
theorem dX0_put_29 : decode cX0_put 29 = .ok (.aload_n 0, 1) := by decide +kernel
theorem dX0_put_30 : decode cX0_put 30 = .ok (.getfield 15, 3) := by decide +kernel
theorem dX0_put_33 : decode cX0_put 33 = .ok (.iload_n 1, 1) := by decide +kernel
theorem dX0_put_34 : decode cX0_put 34 = .ok (.iaload, 1) := by decide +kernel
theorem dX0_put_35 : decode cX0_put 35 = .ok (.iadd, 1) := by decide +kernel
theorem dX0_put_36 : decode cX0_put 36 = .ok (.istore_n 3, 1) := by decide +kernel
theorem dX0_put_37 : decode cX0_put 37 = .ok (.iload_n 3, 1) := by decide +kernel
theorem dX0_put_38 : decode cX0_put 38 = .ok (.ifCond .lt 29, 3) := by decide +kernel
theorem dX0_put_41 : decode cX0_put 41 = .ok (.iload_n 3, 1) := by decide +kernel
theorem dX0_put_42 : decode cX0_put 42 = .ok (.aload_n 0, 1) := by decide +kernel
theorem dX0_put_43 : decode cX0_put 43 = .ok (.getfield 9, 3) := by decide +kernel
theorem dX0_put_46 : decode cX0_put 46 = .ok (.arraylength, 1) := by decide +kernel
theorem dX0_put_47 : decode cX0_put 47 = .ok (.if_icmp .ge 20, 3) := by decide +kernel
theorem dX0_put_50 : decode cX0_put 50 = .ok (.aload_n 0, 1) := by decide +kernel
theorem dX0_put_51 : decode cX0_put 51 = .ok (.getfield 9, 3) := by decide +kernel
theorem dX0_put_54 : decode cX0_put 54 = .ok (.iload_n 3, 1) := by decide +kernel
theorem dX0_put_55 : decode cX0_put 55 = .ok (.iload_n 2, 1) := by decide +kernel
theorem dX0_put_56 : decode cX0_put 56 = .ok (.iastore, 1) := by decide +kernel
theorem dX0_put_57 : decode cX0_put 57 = .ok (.aload_n 0, 1) := by decide +kernel
theorem dX0_put_58 : decode cX0_put 58 = .ok (.getfield 15, 3) := by decide +kernel
theorem dX0_put_61 : decode cX0_put 61 = .ok (.iload_n 1, 1) := by decide +kernel
theorem dX0_put_62 : decode cX0_put 62 = .ok (.dup2, 1) := by decide +kernel
theorem dX0_put_63 : decode cX0_put 63 = .ok (.iaload, 1) := by decide +kernel
theorem dX0_put_64 : decode cX0_put 64 = .ok (.iconst 1, 1) := by decide +kernel
theorem dX0_put_65 : decode cX0_put 65 = .ok (.iadd, 1) := by decide +kernel
theorem dX0_put_66 : decode cX0_put 66 = .ok (.iastore, 1) := by decide +kernel
theorem dX0_put_67 : decode cX0_put 67 = .ok (.return_, 1) := by decide +kernel
theorem dX0_dropUpmost_0 : decode cX0_dropUpmost 0 = .ok (.iload_n 1, 1) := by decide +kernel
theorem dX0_dropUpmost_1 : decode cX0_dropUpmost 1 = .ok (.ifCond .lt 31, 3) := by decide +kernel
theorem dX0_dropUpmost_4 : decode cX0_dropUpmost 4 = .ok (.iload_n 1, 1) := by decide +kernel
theorem dX0_dropUpmost_5 : decode cX0_dropUpmost 5 = .ok (.aload_n 0, 1) := by decide +kernel
theorem dX0_dropUpmost_6 : decode cX0_dropUpmost 6 = .ok (.getfield 15, 3) := by decide +kernel
theorem dX0_dropUpmost_9 : decode cX0_dropUpmost 9 = .ok (.arraylength, 1) := by decide +kernel
theorem dX0_dropUpmost_10 : decode cX0_dropUpmost 10 = .ok (.if_icmp .ge 22, 3) := by decide +kernel
theorem dX0_dropUpmost_13 : decode cX0_dropUpmost 13 = .ok (.aload_n 0, 1) := by decide +kernel
theorem dX0_dropUpmost_14 : decode cX0_dropUpmost 14 = .ok (.getfield 15, 3) := by decide +kernel
theorem dX0_dropUpmost_17 : decode cX0_dropUpmost 17 = .ok (.iload_n 1, 1) := by decide +kernel
theorem dX0_dropUpmost_18 : decode cX0_dropUpmost 18 = .ok (.iaload, 1) := by decide +kernel
theorem dX0_dropUpmost_19 : decode cX0_dropUpmost 19 = .ok (.ifCond .le 13, 3) := by decide +kernel
theorem dX0_dropUpmost_22 : decode cX0_dropUpmost 22 = .ok (.aload_n 0, 1) := by decide +kernel
theorem dX0_dropUpmost_23 : decode cX0_dropUpmost 23 = .ok (.getfield 15, 3) := by decide +kernel
theorem dX0_dropUpmost_26 : decode cX0_dropUpmost 26 = .ok (.iload_n 1, 1) := by decide +kernel
theorem dX0_dropUpmost_27 : decode cX0_dropUpmost 27 = .ok (.dup2, 1) := by decide +kernel
theorem dX0_dropUpmost_28 : decode cX0_dropUpmost 28 = .ok (.iaload, 1) := by decide +kernel
theorem dX0_dropUpmost_29 : decode cX0_dropUpmost 29 = .ok (.iconst 1, 1) := by decide +kernel
theorem dX0_dropUpmost_30 : decode cX0_dropUpmost 30 = .ok (.isub, 1) := by decide +kernel
theorem dX0_dropUpmost_31 : decode cX0_dropUpmost 31 = .ok (.iastore, 1) := by decide +kernel
theorem dX0_dropUpmost_32 : decode cX0_dropUpmost 32 = .ok (.return_, 1) := by decide +kernel
theorem dX0_dropAt_0 : decode cX0_dropAt 0 = .ok (.iload_n 1, 1) := by decide +kernel
theorem dX0_dropAt_1 : decode cX0_dropAt 1 = .ok (.ifCond .lt 26, 3) := by decide +kernel
theorem dX0_dropAt_4 : decode cX0_dropAt 4 = .ok (.iload_n 1, 1) := by decide +kernel
theorem dX0_dropAt_5 : decode cX0_dropAt 5 = .ok (.aload_n 0, 1) := by decide +kernel
theorem dX0_dropAt_6 : decode cX0_dropAt 6 = .ok (.getfield 15, 3) := by decide +kernel
theorem dX0_dropAt_9 : decode cX0_dropAt 9 = .ok (.arraylength, 1) := by decide +kernel
theorem dX0_dropAt_10 : decode cX0_dropAt 10 = .ok (.if_icmp .ge 17, 3) := by decide +kernel
theorem dX0_dropAt_13 : decode cX0_dropAt 13 = .ok (.iload_n 2, 1) := by decide +kernel
theorem dX0_dropAt_14 : decode cX0_dropAt 14 = .ok (.ifCond .lt 13, 3) := by decide +kernel
theorem dX0_dropAt_17 : decode cX0_dropAt 17 = .ok (.iload_n 2, 1) := by decide +kernel
theorem dX0_dropAt_18 : decode cX0_dropAt 18 = .ok (.aload_n 0, 1) := by decide +kernel
theorem dX0_dropAt_19 : decode cX0_dropAt 19 = .ok (.getfield 15, 3) := by decide +kernel
theorem dX0_dropAt_22 : decode cX0_dropAt 22 = .ok (.iload_n 1, 1) := by decide +kernel
theorem dX0_dropAt_23 : decode cX0_dropAt 23 = .ok (.iaload, 1) := by decide +kernel
theorem dX0_dropAt_24 : decode cX0_dropAt 24 = .ok (.if_icmp .lt 4, 3) := by decide +kernel
theorem dX0_dropAt_27 : decode cX0_dropAt 27 = .ok (.return_, 1) := by decide +kernel
theorem dX0_dropAt_28 : decode cX0_dropAt 28 = .ok (.iload_n 1, 1) := by decide +kernel
theorem dX0_dropAt_29 : decode cX0_dropAt 29 = .ok (.bipush 20, 2) := by decide +kernel
theorem dX0_dropAt_31 : decode cX0_dropAt 31 = .ok (.imul, 1) := by decide +kernel
theorem dX0_dropAt_32 : decode cX0_dropAt 32 = .ok (.aload_n 0, 1) := by decide +kernel
theorem dX0_dropAt_33 : decode cX0_dropAt 33 = .ok (.getfield 15, 3) := by decide +kernel
theorem dX0_dropAt_36 : decode cX0_dropAt 36 = .ok (.iload_n 1, 1) := by decide +kernel
theorem dX0_dropAt_37 : decode cX0_dropAt 37 = .ok (.iaload, 1) := by decide +kernel
theorem dX0_dropAt_38 : decode cX0_dropAt 38 = .ok (.iadd, 1) := by decide +kernel
theorem dX0_dropAt_39 : decode cX0_dropAt 39 = .ok (.iconst 1, 1) := by decide +kernel
theorem dX0_dropAt_40 : decode cX0_dropAt 40 = .ok (.isub, 1) := by decide +kernel
theorem dX0_dropAt_41 : decode cX0_dropAt 41 = .ok (.istore_n 3, 1) := by decide +kernel
theorem dX0_dropAt_42 : decode cX0_dropAt 42 = .ok (.iload_n 3, 1) := by decide +kernel
theorem dX0_dropAt_43 : decode cX0_dropAt 43 = .ok (.iload_n 2, 1) := by decide +kernel
theorem dX0_dropAt_44 : decode cX0_dropAt 44 = .ok (.isub, 1) := by decide +kernel
theorem dX0_dropAt_45 : decode cX0_dropAt 45 = .ok (.istore 4, 2) := by decide +kernel
theorem dX0_dropAt_47 : decode cX0_dropAt 47 = .ok (.iload 4, 2) := by decide +kernel
theorem dX0_dropAt_49 : decode cX0_dropAt 49 = .ok (.iload_n 3, 1) := by decide +kernel
theorem dX0_dropAt_50 : decode cX0_dropAt 50 = .ok (.if_icmp .ge 42, 3) := by decide +kernel
theorem dX0_dropAt_53 : decode cX0_dropAt 53 = .ok (.iload 4, 2) := by decide +kernel
theorem dX0_dropAt_55 : decode cX0_dropAt 55 = .ok (.ifCond .lt 31, 3) := by decide +kernel
theorem dX0_dropAt_58 : decode cX0_dropAt 58 = .ok (.iload 4, 2) := by decide +kernel
theorem dX0_dropAt_60 : decode cX0_dropAt 60 = .ok (.iconst 1, 1) := by decide +kernel
theorem dX0_dropAt_61 : decode cX0_dropAt 61 = .ok (.iadd, 1) := by decide +kernel
theorem dX0_dropAt_62 : decode cX0_dropAt 62 = .ok (.aload_n 0, 1) := by decide +kernel
theorem dX0_dropAt_63 : decode cX0_dropAt 63 = .ok (.getfield 9, 3) := by decide +kernel
theorem dX0_dropAt_66 : decode cX0_dropAt 66 = .ok (.arraylength, 1) := by decide +kernel
theorem dX0_dropAt_67 : decode cX0_dropAt 67 = .ok (.if_icmp .ge 19, 3) := by decide +kernel
theorem dX0_dropAt_70 : decode cX0_dropAt 70 = .ok (.aload_n 0, 1) := by decide +kernel
theorem dX0_dropAt_71 : decode cX0_dropAt 71 = .ok (.getfield 9, 3) := by decide +kernel
theorem dX0_dropAt_74 : decode cX0_dropAt 74 = .ok (.iload 4, 2) := by decide +kernel
theorem dX0_dropAt_76 : decode cX0_dropAt 76 = .ok (.aload_n 0, 1) := by decide +kernel
theorem dX0_dropAt_77 : decode cX0_dropAt 77 = .ok (.getfield 9, 3) := by decide +kernel
theorem dX0_dropAt_80 : decode cX0_dropAt 80 = .ok (.iload 4, 2) := by decide +kernel
theorem dX0_dropAt_82 : decode cX0_dropAt 82 = .ok (.iconst 1, 1) := by decide +kernel
theorem dX0_dropAt_83 : decode cX0_dropAt 83 = .ok (.iadd, 1) := by decide +kernel
theorem dX0_dropAt_84 : decode cX0_dropAt 84 = .ok (.iaload, 1) := by decide +kernel
theorem dX0_dropAt_85 : decode cX0_dropAt 85 = .ok (.iastore, 1) := by decide +kernel
theorem dX0_dropAt_86 : decode cX0_dropAt 86 = .ok (.iinc 4 1, 3) := by decide +kernel
theorem dX0_dropAt_89 : decode cX0_dropAt 89 = .ok (.goto (-42), 3) := by decide +kernel
theorem dX0_dropAt_92 : decode cX0_dropAt 92 = .ok (.aload_n 0, 1) := by decide +kernel
theorem dX0_dropAt_93 : decode cX0_dropAt 93 = .ok (.getfield 15, 3) := by decide +kernel
theorem dX0_dropAt_96 : decode cX0_dropAt 96 = .ok (.iload_n 1, 1) := by decide +kernel
theorem dX0_dropAt_97 : decode cX0_dropAt 97 = .ok (.dup2, 1) := by decide +kernel
theorem dX0_dropAt_98 : decode cX0_dropAt 98 = .ok (.iaload, 1) := by decide +kernel
theorem dX0_dropAt_99 : decode cX0_dropAt 99 = .ok (.iconst 1, 1) := by decide +kernel
theorem dX0_dropAt_100 : decode cX0_dropAt 100 = .ok (.isub, 1) := by decide +kernel
theorem dX0_dropAt_101 : decode cX0_dropAt 101 = .ok (.iastore, 1) := by decide +kernel
theorem dX0_dropAt_102 : decode cX0_dropAt 102 = .ok (.return_, 1) := by decide +kernel
set_option maxRecDepth 20000 in
theorem ggX0_exchangeUpmost_X0_typeAt : GoodIn wsX0_exchangeUpmost wsX0_typeAt := goodIn_r _ [5, 6, 7, 16, 17, 18] (by decide +kernel) (by decide +kernel)
set_option maxRecDepth 20000 in
theorem gX0_exchangeUpmost_X0_typeAt : GoodIn wsX0_exchangeUpmost (wsV RX0 26 RX0 yX0_typeAt wsX0_typeAt) := goodIn_app (goodIn_of _ (by decide +kernel)) ggX0_exchangeUpmost_X0_typeAt
set_option maxRecDepth 20000 in
theorem ggX0_exchangeUpmost_X0_dropUpmost : GoodIn wsX0_exchangeUpmost wsX0_dropUpmost := goodIn_r _ [11, 6, 16, 17, 18] (by decide +kernel) (by decide +kernel)
set_option maxRecDepth 20000 in
theorem gX0_exchangeUpmost_X0_dropUpmost : GoodIn wsX0_exchangeUpmost (wsV RX0 30 RX0 yX0_dropUpmost wsX0_dropUpmost) := goodIn_app (goodIn_of _ (by decide +kernel)) ggX0_exchangeUpmost_X0_dropUpmost
set_option maxRecDepth 20000 in
theorem ggX0_exchangeUpmost_X0_put : GoodIn wsX0_exchangeUpmost wsX0_put := goodIn_r _ [15, 6, 7, 16, 17, 18] (by decide +kernel) (by decide +kernel)
set_option maxRecDepth 20000 in
theorem gX0_exchangeUpmost_X0_put : GoodIn wsX0_exchangeUpmost (wsV RX0 22 RX0 yX0_put wsX0_put) := goodIn_app (goodIn_of _ (by decide +kernel)) ggX0_exchangeUpmost_X0_put
theorem dX0_exchangeUpmost_0 : decode cX0_exchangeUpmost 0 = .ok (.iload_n 1, 1) := by decide +kernel
theorem dX0_exchangeUpmost_1 : decode cX0_exchangeUpmost 1 = .ok (.iload_n 2, 1) := by decide +kernel
theorem dX0_exchangeUpmost_2 : decode cX0_exchangeUpmost 2 = .ok (.if_icmp .ne 4, 3) := by decide +kernel
theorem dX0_exchangeUpmost_5 : decode cX0_exchangeUpmost 5 = .ok (.return_, 1) := by decide +kernel
theorem dX0_exchangeUpmost_6 : decode cX0_exchangeUpmost 6 = .ok (.aload_n 0, 1) := by decide +kernel
theorem dX0_exchangeUpmost_7 : decode cX0_exchangeUpmost 7 = .ok (.iload_n 1, 1) := by decide +kernel
theorem dX0_exchangeUpmost_8 : decode cX0_exchangeUpmost 8 = .ok (.iconst 0, 1) := by decide +kernel
theorem dX0_exchangeUpmost_9 : decode cX0_exchangeUpmost 9 = .ok (.invokevirtual 26, 3) := by decide +kernel
theorem dX0_exchangeUpmost_12 : decode cX0_exchangeUpmost 12 = .ok (.istore_n 3, 1) := by decide +kernel
theorem dX0_exchangeUpmost_13 : decode cX0_exchangeUpmost 13 = .ok (.aload_n 0, 1) := by decide +kernel
theorem dX0_exchangeUpmost_14 : decode cX0_exchangeUpmost 14 = .ok (.iload_n 2, 1) := by decide +kernel
theorem dX0_exchangeUpmost_15 : decode cX0_exchangeUpmost 15 = .ok (.iconst 0, 1) := by decide +kernel
theorem dX0_exchangeUpmost_16 : decode cX0_exchangeUpmost 16 = .ok (.invokevirtual 26, 3) := by decide +kernel
theorem dX0_exchangeUpmost_19 : decode cX0_exchangeUpmost 19 = .ok (.istore 4, 2) := by decide +kernel
theorem dX0_exchangeUpmost_21 : decode cX0_exchangeUpmost 21 = .ok (.aload_n 0, 1) := by decide +kernel
theorem dX0_exchangeUpmost_22 : decode cX0_exchangeUpmost 22 = .ok (.iload_n 1, 1) := by decide +kernel
theorem dX0_exchangeUpmost_23 : decode cX0_exchangeUpmost 23 = .ok (.invokevirtual 30, 3) := by decide +kernel
theorem dX0_exchangeUpmost_26 : decode cX0_exchangeUpmost 26 = .ok (.aload_n 0, 1) := by decide +kernel
theorem dX0_exchangeUpmost_27 : decode cX0_exchangeUpmost 27 = .ok (.iload_n 2, 1) := by decide +kernel
theorem dX0_exchangeUpmost_28 : decode cX0_exchangeUpmost 28 = .ok (.invokevirtual 30, 3) := by decide +kernel
theorem dX0_exchangeUpmost_31 : decode cX0_exchangeUpmost 31 = .ok (.iload_n 3, 1) := by decide +kernel
theorem dX0_exchangeUpmost_32 : decode cX0_exchangeUpmost 32 = .ok (.iconst (-1), 1) := by decide +kernel
theorem dX0_exchangeUpmost_33 : decode cX0_exchangeUpmost 33 = .ok (.if_icmp .eq 9, 3) := by decide +kernel
theorem dX0_exchangeUpmost_36 : decode cX0_exchangeUpmost 36 = .ok (.aload_n 0, 1) := by decide +kernel
theorem dX0_exchangeUpmost_37 : decode cX0_exchangeUpmost 37 = .ok (.iload_n 2, 1) := by decide +kernel
theorem dX0_exchangeUpmost_38 : decode cX0_exchangeUpmost 38 = .ok (.iload_n 3, 1) := by decide +kernel
theorem dX0_exchangeUpmost_39 : decode cX0_exchangeUpmost 39 = .ok (.invokevirtual 22, 3) := by decide +kernel
theorem dX0_exchangeUpmost_42 : decode cX0_exchangeUpmost 42 = .ok (.iload 4, 2) := by decide +kernel
theorem dX0_exchangeUpmost_44 : decode cX0_exchangeUpmost 44 = .ok (.iconst (-1), 1) := by decide +kernel
theorem dX0_exchangeUpmost_45 : decode cX0_exchangeUpmost 45 = .ok (.if_icmp .eq 10, 3) := by decide +kernel
theorem dX0_exchangeUpmost_48 : decode cX0_exchangeUpmost 48 = .ok (.aload_n 0, 1) := by decide +kernel
theorem dX0_exchangeUpmost_49 : decode cX0_exchangeUpmost 49 = .ok (.iload_n 1, 1) := by decide +kernel
theorem dX0_exchangeUpmost_50 : decode cX0_exchangeUpmost 50 = .ok (.iload 4, 2) := by decide +kernel
theorem dX0_exchangeUpmost_52 : decode cX0_exchangeUpmost 52 = .ok (.invokevirtual 22, 3) := by decide +kernel
theorem dX0_exchangeUpmost_55 : decode cX0_exchangeUpmost 55 = .ok (.return_, 1) := by decide +kernel
set_option maxRecDepth 20000 in
theorem ggX0_sortInOneBeat_X0_typeAt : GoodIn wsX0_sortInOneBeat wsX0_typeAt := goodIn_r _ [6, 7, 8, 21, 22, 23] (by decide +kernel) (by decide +kernel)
set_option maxRecDepth 20000 in
theorem gX0_sortInOneBeat_X0_typeAt : GoodIn wsX0_sortInOneBeat (wsV RX0 26 RX0 yX0_typeAt wsX0_typeAt) := goodIn_app (goodIn_of _ (by decide +kernel)) ggX0_sortInOneBeat_X0_typeAt
set_option maxRecDepth 20000 in
theorem ggX0_sortInOneBeat_X0_hasRoom : GoodIn wsX0_sortInOneBeat wsX0_hasRoom := goodIn_r _ [12, 7, 21, 22, 23] (by decide +kernel) (by decide +kernel)
set_option maxRecDepth 20000 in
theorem gX0_sortInOneBeat_X0_hasRoom : GoodIn wsX0_sortInOneBeat (wsV RX0 34 RX0 yX0_hasRoom wsX0_hasRoom) := goodIn_app (goodIn_of _ (by decide +kernel)) ggX0_sortInOneBeat_X0_hasRoom
set_option maxRecDepth 20000 in
theorem ggX0_sortInOneBeat_X0_dropUpmost : GoodIn wsX0_sortInOneBeat wsX0_dropUpmost := goodIn_r _ [16, 7, 21, 22, 23] (by decide +kernel) (by decide +kernel)
set_option maxRecDepth 20000 in
theorem gX0_sortInOneBeat_X0_dropUpmost : GoodIn wsX0_sortInOneBeat (wsV RX0 30 RX0 yX0_dropUpmost wsX0_dropUpmost) := goodIn_app (goodIn_of _ (by decide +kernel)) ggX0_sortInOneBeat_X0_dropUpmost
set_option maxRecDepth 20000 in
theorem ggX0_sortInOneBeat_X0_put : GoodIn wsX0_sortInOneBeat wsX0_put := goodIn_r _ [20, 7, 8, 21, 22, 23] (by decide +kernel) (by decide +kernel)
set_option maxRecDepth 20000 in
theorem gX0_sortInOneBeat_X0_put : GoodIn wsX0_sortInOneBeat (wsV RX0 22 RX0 yX0_put wsX0_put) := goodIn_app (goodIn_of _ (by decide +kernel)) ggX0_sortInOneBeat_X0_put
theorem dX0_sortInOneBeat_0 : decode cX0_sortInOneBeat 0 = .ok (.aload_n 0, 1) := by decide +kernel
theorem dX0_sortInOneBeat_1 : decode cX0_sortInOneBeat 1 = .ok (.aload_n 0, 1) := by decide +kernel
theorem dX0_sortInOneBeat_2 : decode cX0_sortInOneBeat 2 = .ok (.getfield 18, 3) := by decide +kernel
theorem dX0_sortInOneBeat_5 : decode cX0_sortInOneBeat 5 = .ok (.iconst 0, 1) := by decide +kernel
theorem dX0_sortInOneBeat_6 : decode cX0_sortInOneBeat 6 = .ok (.invokevirtual 26, 3) := by decide +kernel
theorem dX0_sortInOneBeat_9 : decode cX0_sortInOneBeat 9 = .ok (.istore_n 2, 1) := by decide +kernel
theorem dX0_sortInOneBeat_10 : decode cX0_sortInOneBeat 10 = .ok (.iload_n 2, 1) := by decide +kernel
theorem dX0_sortInOneBeat_11 : decode cX0_sortInOneBeat 11 = .ok (.iconst (-1), 1) := by decide +kernel
theorem dX0_sortInOneBeat_12 : decode cX0_sortInOneBeat 12 = .ok (.if_icmp .eq 15, 3) := by decide +kernel
theorem dX0_sortInOneBeat_15 : decode cX0_sortInOneBeat 15 = .ok (.iload_n 2, 1) := by decide +kernel
theorem dX0_sortInOneBeat_16 : decode cX0_sortInOneBeat 16 = .ok (.aload_n 0, 1) := by decide +kernel
theorem dX0_sortInOneBeat_17 : decode cX0_sortInOneBeat 17 = .ok (.getfield 18, 3) := by decide +kernel
theorem dX0_sortInOneBeat_20 : decode cX0_sortInOneBeat 20 = .ok (.if_icmp .eq 7, 3) := by decide +kernel
theorem dX0_sortInOneBeat_23 : decode cX0_sortInOneBeat 23 = .ok (.iconst 1, 1) := by decide +kernel
theorem dX0_sortInOneBeat_24 : decode cX0_sortInOneBeat 24 = .ok (.goto 4, 3) := by decide +kernel
theorem dX0_sortInOneBeat_27 : decode cX0_sortInOneBeat 27 = .ok (.iconst 0, 1) := by decide +kernel
theorem dX0_sortInOneBeat_28 : decode cX0_sortInOneBeat 28 = .ok (.istore_n 3, 1) := by decide +kernel
theorem dX0_sortInOneBeat_29 : decode cX0_sortInOneBeat 29 = .ok (.iload_n 3, 1) := by decide +kernel
theorem dX0_sortInOneBeat_30 : decode cX0_sortInOneBeat 30 = .ok (.ifCond .eq 40, 3) := by decide +kernel
theorem dX0_sortInOneBeat_33 : decode cX0_sortInOneBeat 33 = .ok (.aload_n 0, 1) := by decide +kernel
theorem dX0_sortInOneBeat_34 : decode cX0_sortInOneBeat 34 = .ok (.getfield 18, 3) := by decide +kernel
theorem dX0_sortInOneBeat_37 : decode cX0_sortInOneBeat 37 = .ok (.iload_n 1, 1) := by decide +kernel
theorem dX0_sortInOneBeat_38 : decode cX0_sortInOneBeat 38 = .ok (.if_icmp .eq 32, 3) := by decide +kernel
theorem dX0_sortInOneBeat_41 : decode cX0_sortInOneBeat 41 = .ok (.iload_n 2, 1) := by decide +kernel
theorem dX0_sortInOneBeat_42 : decode cX0_sortInOneBeat 42 = .ok (.iload_n 1, 1) := by decide +kernel
theorem dX0_sortInOneBeat_43 : decode cX0_sortInOneBeat 43 = .ok (.if_icmp .eq 27, 3) := by decide +kernel
theorem dX0_sortInOneBeat_46 : decode cX0_sortInOneBeat 46 = .ok (.aload_n 0, 1) := by decide +kernel
theorem dX0_sortInOneBeat_47 : decode cX0_sortInOneBeat 47 = .ok (.iload_n 2, 1) := by decide +kernel
theorem dX0_sortInOneBeat_48 : decode cX0_sortInOneBeat 48 = .ok (.invokevirtual 34, 3) := by decide +kernel
theorem dX0_sortInOneBeat_51 : decode cX0_sortInOneBeat 51 = .ok (.ifCond .eq 19, 3) := by decide +kernel
theorem dX0_sortInOneBeat_54 : decode cX0_sortInOneBeat 54 = .ok (.aload_n 0, 1) := by decide +kernel
theorem dX0_sortInOneBeat_55 : decode cX0_sortInOneBeat 55 = .ok (.aload_n 0, 1) := by decide +kernel
theorem dX0_sortInOneBeat_56 : decode cX0_sortInOneBeat 56 = .ok (.getfield 18, 3) := by decide +kernel
theorem dX0_sortInOneBeat_59 : decode cX0_sortInOneBeat 59 = .ok (.invokevirtual 30, 3) := by decide +kernel
theorem dX0_sortInOneBeat_62 : decode cX0_sortInOneBeat 62 = .ok (.aload_n 0, 1) := by decide +kernel
theorem dX0_sortInOneBeat_63 : decode cX0_sortInOneBeat 63 = .ok (.iload_n 2, 1) := by decide +kernel
theorem dX0_sortInOneBeat_64 : decode cX0_sortInOneBeat 64 = .ok (.iload_n 2, 1) := by decide +kernel
theorem dX0_sortInOneBeat_65 : decode cX0_sortInOneBeat 65 = .ok (.invokevirtual 22, 3) := by decide +kernel
theorem dX0_sortInOneBeat_68 : decode cX0_sortInOneBeat 68 = .ok (.iconst 1, 1) := by decide +kernel
theorem dX0_sortInOneBeat_69 : decode cX0_sortInOneBeat 69 = .ok (.ireturn, 1) := by decide +kernel
theorem dX0_sortInOneBeat_70 : decode cX0_sortInOneBeat 70 = .ok (.aload_n 0, 1) := by decide +kernel
theorem dX0_sortInOneBeat_71 : decode cX0_sortInOneBeat 71 = .ok (.aload_n 0, 1) := by decide +kernel
theorem dX0_sortInOneBeat_72 : decode cX0_sortInOneBeat 72 = .ok (.getfield 18, 3) := by decide +kernel
theorem dX0_sortInOneBeat_75 : decode cX0_sortInOneBeat 75 = .ok (.iconst 1, 1) := by decide +kernel
theorem dX0_sortInOneBeat_76 : decode cX0_sortInOneBeat 76 = .ok (.iadd, 1) := by decide +kernel
theorem dX0_sortInOneBeat_77 : decode cX0_sortInOneBeat 77 = .ok (.bipush 12, 2) := by decide +kernel
theorem dX0_sortInOneBeat_79 : decode cX0_sortInOneBeat 79 = .ok (.if_icmp .ge 12, 3) := by decide +kernel
theorem dX0_sortInOneBeat_82 : decode cX0_sortInOneBeat 82 = .ok (.aload_n 0, 1) := by decide +kernel
theorem dX0_sortInOneBeat_83 : decode cX0_sortInOneBeat 83 = .ok (.getfield 18, 3) := by decide +kernel
theorem dX0_sortInOneBeat_86 : decode cX0_sortInOneBeat 86 = .ok (.iconst 1, 1) := by decide +kernel
theorem dX0_sortInOneBeat_87 : decode cX0_sortInOneBeat 87 = .ok (.iadd, 1) := by decide +kernel
theorem dX0_sortInOneBeat_88 : decode cX0_sortInOneBeat 88 = .ok (.goto 4, 3) := by decide +kernel
theorem dX0_sortInOneBeat_91 : decode cX0_sortInOneBeat 91 = .ok (.iconst 0, 1) := by decide +kernel
theorem dX0_sortInOneBeat_92 : decode cX0_sortInOneBeat 92 = .ok (.putfield 18, 3) := by decide +kernel
theorem dX0_sortInOneBeat_95 : decode cX0_sortInOneBeat 95 = .ok (.iconst 0, 1) := by decide +kernel
theorem dX0_sortInOneBeat_96 : decode cX0_sortInOneBeat 96 = .ok (.ireturn, 1) := by decide +kernel
set_option maxRecDepth 20000 in
theorem ggX0_sortAll_X0_sortInOneBeat : GoodIn wsX0_sortAll wsX0_sortInOneBeat := goodIn_r _ [5, 6, 7, 8, 9, 4, 10, 11, 12, 13, 14, 15, 16, 17, 18, 19, 20, 21, 22, 23, 24, 25, 26, 27] (by decide +kernel) (by decide +kernel)
set_option maxRecDepth 20000 in
theorem gX0_sortAll_X0_sortInOneBeat : GoodIn wsX0_sortAll (wsV RX0 38 RX0 yX0_sortInOneBeat wsX0_sortInOneBeat) := goodIn_app (goodIn_of _ (by decide +kernel)) ggX0_sortAll_X0_sortInOneBeat
theorem dX0_sortAll_0 : decode cX0_sortAll 0 = .ok (.iconst 0, 1) := by decide +kernel
theorem dX0_sortAll_1 : decode cX0_sortAll 1 = .ok (.istore_n 1, 1) := by decide +kernel
theorem dX0_sortAll_2 : decode cX0_sortAll 2 = .ok (.iconst 1, 1) := by decide +kernel
theorem dX0_sortAll_3 : decode cX0_sortAll 3 = .ok (.istore_n 2, 1) := by decide +kernel
theorem dX0_sortAll_4 : decode cX0_sortAll 4 = .ok (.iload_n 2, 1) := by decide +kernel
theorem dX0_sortAll_5 : decode cX0_sortAll 5 = .ok (.sipush 876, 3) := by decide +kernel
theorem dX0_sortAll_8 : decode cX0_sortAll 8 = .ok (.if_icmp .gt 27, 3) := by decide +kernel
theorem dX0_sortAll_11 : decode cX0_sortAll 11 = .ok (.iload_n 2, 1) := by decide +kernel
theorem dX0_sortAll_12 : decode cX0_sortAll 12 = .ok (.iload_n 1, 1) := by decide +kernel
theorem dX0_sortAll_13 : decode cX0_sortAll 13 = .ok (.isub, 1) := by decide +kernel
theorem dX0_sortAll_14 : decode cX0_sortAll 14 = .ok (.bipush 12, 2) := by decide +kernel
theorem dX0_sortAll_16 : decode cX0_sortAll 16 = .ok (.if_icmp .gt 19, 3) := by decide +kernel
theorem dX0_sortAll_19 : decode cX0_sortAll 19 = .ok (.aload_n 0, 1) := by decide +kernel
theorem dX0_sortAll_20 : decode cX0_sortAll 20 = .ok (.iconst (-1), 1) := by decide +kernel
theorem dX0_sortAll_21 : decode cX0_sortAll 21 = .ok (.invokevirtual 38, 3) := by decide +kernel
theorem dX0_sortAll_24 : decode cX0_sortAll 24 = .ok (.ifCond .eq 5, 3) := by decide +kernel
theorem dX0_sortAll_27 : decode cX0_sortAll 27 = .ok (.iload_n 2, 1) := by decide +kernel
theorem dX0_sortAll_28 : decode cX0_sortAll 28 = .ok (.istore_n 1, 1) := by decide +kernel
theorem dX0_sortAll_29 : decode cX0_sortAll 29 = .ok (.iinc 2 1, 3) := by decide +kernel
theorem dX0_sortAll_32 : decode cX0_sortAll 32 = .ok (.goto (-28), 3) := by decide +kernel
theorem dX0_sortAll_35 : decode cX0_sortAll 35 = .ok (.iload_n 1, 1) := by decide +kernel
theorem dX0_sortAll_36 : decode cX0_sortAll 36 = .ok (.ireturn, 1) := by decide +kernel
set_option maxRecDepth 20000 in
theorem ggX0_depthOfRight_X0_heightOf : GoodIn wsX0_depthOfRight wsX0_heightOf := goodIn_r _ [5, 6, 12, 13, 14] (by decide +kernel) (by decide +kernel)
set_option maxRecDepth 20000 in
theorem gX0_depthOfRight_X0_heightOf : GoodIn wsX0_depthOfRight (wsV RX0 41 RX0 yX0_heightOf wsX0_heightOf) := goodIn_app (goodIn_of _ (by decide +kernel)) ggX0_depthOfRight_X0_heightOf
set_option maxRecDepth 20000 in
theorem ggX0_depthOfRight_X0_typeAt : GoodIn wsX0_depthOfRight wsX0_typeAt := goodIn_r _ [10, 6, 11, 12, 13, 14] (by decide +kernel) (by decide +kernel)
set_option maxRecDepth 20000 in
theorem gX0_depthOfRight_X0_typeAt : GoodIn wsX0_depthOfRight (wsV RX0 26 RX0 yX0_typeAt wsX0_typeAt) := goodIn_app (goodIn_of _ (by decide +kernel)) ggX0_depthOfRight_X0_typeAt
theorem dX0_depthOfRight_0 : decode cX0_depthOfRight 0 = .ok (.aload_n 0, 1) := by decide +kernel
theorem dX0_depthOfRight_1 : decode cX0_depthOfRight 1 = .ok (.iload_n 1, 1) := by decide +kernel
theorem dX0_depthOfRight_2 : decode cX0_depthOfRight 2 = .ok (.invokevirtual 41, 3) := by decide +kernel
theorem dX0_depthOfRight_5 : decode cX0_depthOfRight 5 = .ok (.istore_n 2, 1) := by decide +kernel
theorem dX0_depthOfRight_6 : decode cX0_depthOfRight 6 = .ok (.iconst 0, 1) := by decide +kernel
theorem dX0_depthOfRight_7 : decode cX0_depthOfRight 7 = .ok (.istore_n 3, 1) := by decide +kernel
theorem dX0_depthOfRight_8 : decode cX0_depthOfRight 8 = .ok (.iload_n 3, 1) := by decide +kernel
theorem dX0_depthOfRight_9 : decode cX0_depthOfRight 9 = .ok (.iload_n 2, 1) := by decide +kernel
theorem dX0_depthOfRight_10 : decode cX0_depthOfRight 10 = .ok (.if_icmp .ge 21, 3) := by decide +kernel
theorem dX0_depthOfRight_13 : decode cX0_depthOfRight 13 = .ok (.aload_n 0, 1) := by decide +kernel
theorem dX0_depthOfRight_14 : decode cX0_depthOfRight 14 = .ok (.iload_n 1, 1) := by decide +kernel
theorem dX0_depthOfRight_15 : decode cX0_depthOfRight 15 = .ok (.iload_n 3, 1) := by decide +kernel
theorem dX0_depthOfRight_16 : decode cX0_depthOfRight 16 = .ok (.invokevirtual 26, 3) := by decide +kernel
theorem dX0_depthOfRight_19 : decode cX0_depthOfRight 19 = .ok (.iload_n 1, 1) := by decide +kernel
theorem dX0_depthOfRight_20 : decode cX0_depthOfRight 20 = .ok (.if_icmp .ne 5, 3) := by decide +kernel
theorem dX0_depthOfRight_23 : decode cX0_depthOfRight 23 = .ok (.iload_n 3, 1) := by decide +kernel
theorem dX0_depthOfRight_24 : decode cX0_depthOfRight 24 = .ok (.ireturn, 1) := by decide +kernel
theorem dX0_depthOfRight_25 : decode cX0_depthOfRight 25 = .ok (.iinc 3 1, 3) := by decide +kernel
theorem dX0_depthOfRight_28 : decode cX0_depthOfRight 28 = .ok (.goto (-20), 3) := by decide +kernel
theorem dX0_depthOfRight_31 : decode cX0_depthOfRight 31 = .ok (.iconst (-1), 1) := by decide +kernel
theorem dX0_depthOfRight_32 : decode cX0_depthOfRight 32 = .ok (.ireturn, 1) := by decide +kernel
set_option maxRecDepth 20000 in
theorem ggX0_countIn_X0_heightOf : GoodIn wsX0_countIn wsX0_heightOf := goodIn_r _ [5, 6, 12, 13, 14] (by decide +kernel) (by decide +kernel)
set_option maxRecDepth 20000 in
theorem gX0_countIn_X0_heightOf : GoodIn wsX0_countIn (wsV RX0 41 RX0 yX0_heightOf wsX0_heightOf) := goodIn_app (goodIn_of _ (by decide +kernel)) ggX0_countIn_X0_heightOf
set_option maxRecDepth 20000 in
theorem ggX0_countIn_X0_typeAt : GoodIn wsX0_countIn wsX0_typeAt := goodIn_r _ [10, 6, 11, 12, 13, 14] (by decide +kernel) (by decide +kernel)
set_option maxRecDepth 20000 in
theorem gX0_countIn_X0_typeAt : GoodIn wsX0_countIn (wsV RX0 26 RX0 yX0_typeAt wsX0_typeAt) := goodIn_app (goodIn_of _ (by decide +kernel)) ggX0_countIn_X0_typeAt
theorem dX0_countIn_0 : decode cX0_countIn 0 = .ok (.aload_n 0, 1) := by decide +kernel
theorem dX0_countIn_1 : decode cX0_countIn 1 = .ok (.iload_n 1, 1) := by decide +kernel
theorem dX0_countIn_2 : decode cX0_countIn 2 = .ok (.invokevirtual 41, 3) := by decide +kernel
theorem dX0_countIn_5 : decode cX0_countIn 5 = .ok (.istore_n 3, 1) := by decide +kernel
theorem dX0_countIn_6 : decode cX0_countIn 6 = .ok (.iconst 0, 1) := by decide +kernel
theorem dX0_countIn_7 : decode cX0_countIn 7 = .ok (.istore 4, 2) := by decide +kernel
theorem dX0_countIn_9 : decode cX0_countIn 9 = .ok (.iconst 0, 1) := by decide +kernel
theorem dX0_countIn_10 : decode cX0_countIn 10 = .ok (.istore 5, 2) := by decide +kernel
theorem dX0_countIn_12 : decode cX0_countIn 12 = .ok (.iload 5, 2) := by decide +kernel
theorem dX0_countIn_14 : decode cX0_countIn 14 = .ok (.iload_n 3, 1) := by decide +kernel
theorem dX0_countIn_15 : decode cX0_countIn 15 = .ok (.if_icmp .ge 23, 3) := by decide +kernel
theorem dX0_countIn_18 : decode cX0_countIn 18 = .ok (.aload_n 0, 1) := by decide +kernel
theorem dX0_countIn_19 : decode cX0_countIn 19 = .ok (.iload_n 1, 1) := by decide +kernel
theorem dX0_countIn_20 : decode cX0_countIn 20 = .ok (.iload 5, 2) := by decide +kernel
theorem dX0_countIn_22 : decode cX0_countIn 22 = .ok (.invokevirtual 26, 3) := by decide +kernel
theorem dX0_countIn_25 : decode cX0_countIn 25 = .ok (.iload_n 2, 1) := by decide +kernel
theorem dX0_countIn_26 : decode cX0_countIn 26 = .ok (.if_icmp .ne 6, 3) := by decide +kernel
theorem dX0_countIn_29 : decode cX0_countIn 29 = .ok (.iinc 4 1, 3) := by decide +kernel
theorem dX0_countIn_32 : decode cX0_countIn 32 = .ok (.iinc 5 1, 3) := by decide +kernel
theorem dX0_countIn_35 : decode cX0_countIn 35 = .ok (.goto (-23), 3) := by decide +kernel
theorem dX0_countIn_38 : decode cX0_countIn 38 = .ok (.iload 4, 2) := by decide +kernel
theorem dX0_countIn_40 : decode cX0_countIn 40 = .ok (.ireturn, 1) := by decide +kernel
set_option maxRecDepth 20000 in
theorem ggX0_wrongIn_X0_heightOf : GoodIn wsX0_wrongIn wsX0_heightOf := goodIn_r _ [5, 6, 16, 17, 18] (by decide +kernel) (by decide +kernel)
set_option maxRecDepth 20000 in
theorem gX0_wrongIn_X0_heightOf : GoodIn wsX0_wrongIn (wsV RX0 41 RX0 yX0_heightOf wsX0_heightOf) := goodIn_app (goodIn_of _ (by decide +kernel)) ggX0_wrongIn_X0_heightOf
set_option maxRecDepth 20000 in
theorem ggX0_wrongIn_X0_countIn : GoodIn wsX0_wrongIn wsX0_countIn := goodIn_r _ [10, 1, 2, 3, 4, 5, 6, 11, 12, 13, 14, 15, 16, 17, 18] (by decide +kernel) (by decide +kernel)
set_option maxRecDepth 20000 in
theorem gX0_wrongIn_X0_countIn : GoodIn wsX0_wrongIn (wsV RX0 45 RX0 yX0_countIn wsX0_countIn) := goodIn_app (goodIn_of _ (by decide +kernel)) ggX0_wrongIn_X0_countIn
theorem dX0_wrongIn_0 : decode cX0_wrongIn 0 = .ok (.aload_n 0, 1) := by decide +kernel
theorem dX0_wrongIn_1 : decode cX0_wrongIn 1 = .ok (.iload_n 1, 1) := by decide +kernel
theorem dX0_wrongIn_2 : decode cX0_wrongIn 2 = .ok (.invokevirtual 41, 3) := by decide +kernel
theorem dX0_wrongIn_5 : decode cX0_wrongIn 5 = .ok (.aload_n 0, 1) := by decide +kernel
theorem dX0_wrongIn_6 : decode cX0_wrongIn 6 = .ok (.iload_n 1, 1) := by decide +kernel
theorem dX0_wrongIn_7 : decode cX0_wrongIn 7 = .ok (.iload_n 1, 1) := by decide +kernel
theorem dX0_wrongIn_8 : decode cX0_wrongIn 8 = .ok (.invokevirtual 45, 3) := by decide +kernel
theorem dX0_wrongIn_11 : decode cX0_wrongIn 11 = .ok (.isub, 1) := by decide +kernel
theorem dX0_wrongIn_12 : decode cX0_wrongIn 12 = .ok (.ireturn, 1) := by decide +kernel
set_option maxRecDepth 20000 in
theorem ggX0_wrong_X0_wrongIn : GoodIn wsX0_wrong wsX0_wrongIn := goodIn_r _ [5, 6, 7, 8, 4, 9, 10, 11, 12, 13, 14, 15, 16, 17, 18, 19, 20, 21, 22] (by decide +kernel) (by decide +kernel)
set_option maxRecDepth 20000 in
theorem gX0_wrong_X0_wrongIn : GoodIn wsX0_wrong (wsV RX0 48 RX0 yX0_wrongIn wsX0_wrongIn) := goodIn_app (goodIn_of _ (by decide +kernel)) ggX0_wrong_X0_wrongIn
theorem dX0_wrong_0 : decode cX0_wrong 0 = .ok (.iconst 0, 1) := by decide +kernel
theorem dX0_wrong_1 : decode cX0_wrong 1 = .ok (.istore_n 1, 1) := by decide +kernel
theorem dX0_wrong_2 : decode cX0_wrong 2 = .ok (.iconst 0, 1) := by decide +kernel
theorem dX0_wrong_3 : decode cX0_wrong 3 = .ok (.istore_n 2, 1) := by decide +kernel
theorem dX0_wrong_4 : decode cX0_wrong 4 = .ok (.iload_n 2, 1) := by decide +kernel
theorem dX0_wrong_5 : decode cX0_wrong 5 = .ok (.bipush 12, 2) := by decide +kernel
theorem dX0_wrong_7 : decode cX0_wrong 7 = .ok (.if_icmp .ge 17, 3) := by decide +kernel
theorem dX0_wrong_10 : decode cX0_wrong 10 = .ok (.iload_n 1, 1) := by decide +kernel
theorem dX0_wrong_11 : decode cX0_wrong 11 = .ok (.aload_n 0, 1) := by decide +kernel
theorem dX0_wrong_12 : decode cX0_wrong 12 = .ok (.iload_n 2, 1) := by decide +kernel
theorem dX0_wrong_13 : decode cX0_wrong 13 = .ok (.invokevirtual 48, 3) := by decide +kernel
theorem dX0_wrong_16 : decode cX0_wrong 16 = .ok (.iadd, 1) := by decide +kernel
theorem dX0_wrong_17 : decode cX0_wrong 17 = .ok (.istore_n 1, 1) := by decide +kernel
theorem dX0_wrong_18 : decode cX0_wrong 18 = .ok (.iinc 2 1, 3) := by decide +kernel
theorem dX0_wrong_21 : decode cX0_wrong 21 = .ok (.goto (-17), 3) := by decide +kernel
theorem dX0_wrong_24 : decode cX0_wrong 24 = .ok (.iload_n 1, 1) := by decide +kernel
theorem dX0_wrong_25 : decode cX0_wrong 25 = .ok (.ireturn, 1) := by decide +kernel
set_option maxRecDepth 20000 in
theorem ggX0_strayOf_X0_countIn : GoodIn wsX0_strayOf wsX0_countIn := goodIn_r _ [5, 6, 7, 8, 4, 9, 10, 11, 12, 13, 14, 15, 16, 17, 18] (by decide +kernel) (by decide +kernel)
set_option maxRecDepth 20000 in
theorem gX0_strayOf_X0_countIn : GoodIn wsX0_strayOf (wsV RX0 45 RX0 yX0_countIn wsX0_countIn) := goodIn_app (goodIn_of _ (by decide +kernel)) ggX0_strayOf_X0_countIn
theorem dX0_strayOf_0 : decode cX0_strayOf 0 = .ok (.iconst 0, 1) := by decide +kernel
theorem dX0_strayOf_1 : decode cX0_strayOf 1 = .ok (.istore_n 2, 1) := by decide +kernel
theorem dX0_strayOf_2 : decode cX0_strayOf 2 = .ok (.iconst 0, 1) := by decide +kernel
theorem dX0_strayOf_3 : decode cX0_strayOf 3 = .ok (.istore_n 3, 1) := by decide +kernel
theorem dX0_strayOf_4 : decode cX0_strayOf 4 = .ok (.iload_n 3, 1) := by decide +kernel
theorem dX0_strayOf_5 : decode cX0_strayOf 5 = .ok (.bipush 12, 2) := by decide +kernel
theorem dX0_strayOf_7 : decode cX0_strayOf 7 = .ok (.if_icmp .ge 23, 3) := by decide +kernel
theorem dX0_strayOf_10 : decode cX0_strayOf 10 = .ok (.iload_n 3, 1) := by decide +kernel
theorem dX0_strayOf_11 : decode cX0_strayOf 11 = .ok (.iload_n 1, 1) := by decide +kernel
theorem dX0_strayOf_12 : decode cX0_strayOf 12 = .ok (.if_icmp .eq 12, 3) := by decide +kernel
theorem dX0_strayOf_15 : decode cX0_strayOf 15 = .ok (.iload_n 2, 1) := by decide +kernel
theorem dX0_strayOf_16 : decode cX0_strayOf 16 = .ok (.aload_n 0, 1) := by decide +kernel
theorem dX0_strayOf_17 : decode cX0_strayOf 17 = .ok (.iload_n 3, 1) := by decide +kernel
theorem dX0_strayOf_18 : decode cX0_strayOf 18 = .ok (.iload_n 1, 1) := by decide +kernel
theorem dX0_strayOf_19 : decode cX0_strayOf 19 = .ok (.invokevirtual 45, 3) := by decide +kernel
theorem dX0_strayOf_22 : decode cX0_strayOf 22 = .ok (.iadd, 1) := by decide +kernel
theorem dX0_strayOf_23 : decode cX0_strayOf 23 = .ok (.istore_n 2, 1) := by decide +kernel
theorem dX0_strayOf_24 : decode cX0_strayOf 24 = .ok (.iinc 3 1, 3) := by decide +kernel
theorem dX0_strayOf_27 : decode cX0_strayOf 27 = .ok (.goto (-23), 3) := by decide +kernel
theorem dX0_strayOf_30 : decode cX0_strayOf 30 = .ok (.iload_n 2, 1) := by decide +kernel
theorem dX0_strayOf_31 : decode cX0_strayOf 31 = .ok (.ireturn, 1) := by decide +kernel
set_option maxRecDepth 20000 in
theorem ggX0_types_X0_heightOf : GoodIn wsX0_types wsX0_heightOf := goodIn_r _ [5, 6, 7, 8, 9] (by decide +kernel) (by decide +kernel)
set_option maxRecDepth 20000 in
theorem gX0_types_X0_heightOf : GoodIn wsX0_types (wsV RX0 41 RX0 yX0_heightOf wsX0_heightOf) := goodIn_app (goodIn_of _ (by decide +kernel)) ggX0_types_X0_heightOf
theorem dX0_types_0 : decode cX0_types 0 = .ok (.iconst 0, 1) := by decide +kernel
theorem dX0_types_1 : decode cX0_types 1 = .ok (.istore_n 1, 1) := by decide +kernel
theorem dX0_types_2 : decode cX0_types 2 = .ok (.iconst 0, 1) := by decide +kernel
theorem dX0_types_3 : decode cX0_types 3 = .ok (.istore_n 2, 1) := by decide +kernel
theorem dX0_types_4 : decode cX0_types 4 = .ok (.iload_n 2, 1) := by decide +kernel
theorem dX0_types_5 : decode cX0_types 5 = .ok (.bipush 12, 2) := by decide +kernel
theorem dX0_types_7 : decode cX0_types 7 = .ok (.if_icmp .ge 17, 3) := by decide +kernel
theorem dX0_types_10 : decode cX0_types 10 = .ok (.iload_n 1, 1) := by decide +kernel
theorem dX0_types_11 : decode cX0_types 11 = .ok (.aload_n 0, 1) := by decide +kernel
theorem dX0_types_12 : decode cX0_types 12 = .ok (.iload_n 2, 1) := by decide +kernel
theorem dX0_types_13 : decode cX0_types 13 = .ok (.invokevirtual 41, 3) := by decide +kernel
theorem dX0_types_16 : decode cX0_types 16 = .ok (.iadd, 1) := by decide +kernel
theorem dX0_types_17 : decode cX0_types 17 = .ok (.istore_n 1, 1) := by decide +kernel
theorem dX0_types_18 : decode cX0_types 18 = .ok (.iinc 2 1, 3) := by decide +kernel
theorem dX0_types_21 : decode cX0_types 21 = .ok (.goto (-17), 3) := by decide +kernel
theorem dX0_types_24 : decode cX0_types 24 = .ok (.iload_n 1, 1) := by decide +kernel
theorem dX0_types_25 : decode cX0_types 25 = .ok (.ireturn, 1) := by decide +kernel
