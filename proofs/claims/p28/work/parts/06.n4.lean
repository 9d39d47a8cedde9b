theorem dX6_init_0 : decode cX6_init 0 = .ok (.aload_n 0, 1) := by decide +kernel
theorem dX6_init_1 : decode cX6_init 1 = .ok (.invokespecial 3, 3) := by decide +kernel
theorem dX6_init_4 : decode cX6_init 4 = .ok (.aload_n 0, 1) := by decide +kernel
theorem dX6_init_5 : decode cX6_init 5 = .ok (.new 9, 3) := by decide +kernel
theorem dX6_init_8 : decode cX6_init 8 = .ok (.dup, 1) := by decide +kernel
theorem dX6_init_9 : decode cX6_init 9 = .ok (.invokespecial 11, 3) := by decide +kernel
theorem dX6_init_12 : decode cX6_init 12 = .ok (.putfield 12, 3) := by decide +kernel
theorem dX6_init_15 : decode cX6_init 15 = .ok (.aload_n 0, 1) := by decide +kernel
theorem dX6_init_16 : decode cX6_init 16 = .ok (.new 16, 3) := by decide +kernel
theorem dX6_init_19 : decode cX6_init 19 = .ok (.dup, 1) := by decide +kernel
theorem dX6_init_20 : decode cX6_init 20 = .ok (.invokespecial 18, 3) := by decide +kernel
theorem dX6_init_23 : decode cX6_init 23 = .ok (.putfield 19, 3) := by decide +kernel
theorem dX6_init_26 : decode cX6_init 26 = .ok (.aload_n 0, 1) := by decide +kernel
theorem dX6_init_27 : decode cX6_init 27 = .ok (.new 9, 3) := by decide +kernel
theorem dX6_init_30 : decode cX6_init 30 = .ok (.dup, 1) := by decide +kernel
theorem dX6_init_31 : decode cX6_init 31 = .ok (.invokespecial 11, 3) := by decide +kernel
theorem dX6_init_34 : decode cX6_init 34 = .ok (.putfield 23, 3) := by decide +kernel
theorem dX6_init_37 : decode cX6_init 37 = .ok (.aload_n 0, 1) := by decide +kernel
theorem dX6_init_38 : decode cX6_init 38 = .ok (.iconst 0, 1) := by decide +kernel
theorem dX6_init_39 : decode cX6_init 39 = .ok (.putfield 26, 3) := by decide +kernel
theorem dX6_init_42 : decode cX6_init 42 = .ok (.aload_n 0, 1) := by decide +kernel
theorem dX6_init_43 : decode cX6_init 43 = .ok (.new 30, 3) := by decide +kernel
theorem dX6_init_46 : decode cX6_init 46 = .ok (.dup, 1) := by decide +kernel
theorem dX6_init_47 : decode cX6_init 47 = .ok (.invokespecial 32, 3) := by decide +kernel
theorem dX6_init_50 : decode cX6_init 50 = .ok (.putfield 33, 3) := by decide +kernel
theorem dX6_init_53 : decode cX6_init 53 = .ok (.aload_n 0, 1) := by decide +kernel
theorem dX6_init_54 : decode cX6_init 54 = .ok (.new 37, 3) := by decide +kernel
theorem dX6_init_57 : decode cX6_init 57 = .ok (.dup, 1) := by decide +kernel
theorem dX6_init_58 : decode cX6_init 58 = .ok (.invokespecial 39, 3) := by decide +kernel
theorem dX6_init_61 : decode cX6_init 61 = .ok (.putfield 40, 3) := by decide +kernel
theorem dX6_init_64 : decode cX6_init 64 = .ok (.return_, 1) := by decide +kernel
theorem dX6_set_0 : decode cX6_set 0 = .ok (.iload_n 1, 1) := by decide +kernel
theorem dX6_set_1 : decode cX6_set 1 = .ok (.invokestatic 44, 3) := by decide +kernel
theorem dX6_set_4 : decode cX6_set 4 = .ok (.ifCond .ne 13, 3) := by decide +kernel
theorem dX6_set_7 : decode cX6_set 7 = .ok (.new 48, 3) := by decide +kernel
theorem dX6_set_10 : decode cX6_set 10 = .ok (.dup, 1) := by decide +kernel
theorem dX6_set_11 : decode cX6_set 11 = .ok (.ldc 50, 2) := by decide +kernel
theorem dX6_set_13 : decode cX6_set 13 = .ok (.invokespecial 52, 3) := by decide +kernel
theorem dX6_set_16 : decode cX6_set 16 = .ok (.athrow, 1) := by decide +kernel
theorem dX6_set_17 : decode cX6_set 17 = .ok (.aload_n 0, 1) := by decide +kernel
theorem dX6_set_18 : decode cX6_set 18 = .ok (.getfield 12, 3) := by decide +kernel
theorem dX6_set_21 : decode cX6_set 21 = .ok (.iload_n 1, 1) := by decide +kernel
theorem dX6_set_22 : decode cX6_set 22 = .ok (.invokevirtual 55, 3) := by decide +kernel
theorem dX6_set_25 : decode cX6_set 25 = .ok (.ifCond .eq 13, 3) := by decide +kernel
theorem dX6_set_28 : decode cX6_set 28 = .ok (.new 59, 3) := by decide +kernel
theorem dX6_set_31 : decode cX6_set 31 = .ok (.dup, 1) := by decide +kernel
theorem dX6_set_32 : decode cX6_set 32 = .ok (.ldc 61, 2) := by decide +kernel
theorem dX6_set_34 : decode cX6_set 34 = .ok (.invokespecial 63, 3) := by decide +kernel
theorem dX6_set_37 : decode cX6_set 37 = .ok (.athrow, 1) := by decide +kernel
theorem dX6_set_38 : decode cX6_set 38 = .ok (.aload_n 0, 1) := by decide +kernel
theorem dX6_set_39 : decode cX6_set 39 = .ok (.getfield 19, 3) := by decide +kernel
theorem dX6_set_42 : decode cX6_set 42 = .ok (.aload_n 0, 1) := by decide +kernel
theorem dX6_set_43 : decode cX6_set 43 = .ok (.getfield 12, 3) := by decide +kernel
theorem dX6_set_46 : decode cX6_set 46 = .ok (.invokevirtual 64, 3) := by decide +kernel
theorem dX6_set_49 : decode cX6_set 49 = .ok (.aload_n 0, 1) := by decide +kernel
theorem dX6_set_50 : decode cX6_set 50 = .ok (.getfield 12, 3) := by decide +kernel
theorem dX6_set_53 : decode cX6_set 53 = .ok (.iload_n 1, 1) := by decide +kernel
theorem dX6_set_54 : decode cX6_set 54 = .ok (.invokevirtual 68, 3) := by decide +kernel
theorem dX6_set_57 : decode cX6_set 57 = .ok (.ireturn, 1) := by decide +kernel
theorem dX6_idle_0 : decode cX6_idle 0 = .ok (.iload_n 1, 1) := by decide +kernel
theorem dX6_idle_1 : decode cX6_idle 1 = .ok (.iconst 1, 1) := by decide +kernel
theorem dX6_idle_2 : decode cX6_idle 2 = .ok (.if_icmp .lt 9, 3) := by decide +kernel
theorem dX6_idle_5 : decode cX6_idle 5 = .ok (.iload_n 1, 1) := by decide +kernel
theorem dX6_idle_6 : decode cX6_idle 6 = .ok (.bipush 99, 2) := by decide +kernel
theorem dX6_idle_8 : decode cX6_idle 8 = .ok (.if_icmp .le 13, 3) := by decide +kernel
theorem dX6_idle_11 : decode cX6_idle 11 = .ok (.new 71, 3) := by decide +kernel
theorem dX6_idle_14 : decode cX6_idle 14 = .ok (.dup, 1) := by decide +kernel
theorem dX6_idle_15 : decode cX6_idle 15 = .ok (.ldc 73, 2) := by decide +kernel
theorem dX6_idle_17 : decode cX6_idle 17 = .ok (.invokespecial 75, 3) := by decide +kernel
theorem dX6_idle_20 : decode cX6_idle 20 = .ok (.athrow, 1) := by decide +kernel
theorem dX6_idle_21 : decode cX6_idle 21 = .ok (.aload_n 0, 1) := by decide +kernel
theorem dX6_idle_22 : decode cX6_idle 22 = .ok (.getfield 19, 3) := by decide +kernel
theorem dX6_idle_25 : decode cX6_idle 25 = .ok (.aload_n 0, 1) := by decide +kernel
theorem dX6_idle_26 : decode cX6_idle 26 = .ok (.getfield 12, 3) := by decide +kernel
theorem dX6_idle_29 : decode cX6_idle 29 = .ok (.invokevirtual 64, 3) := by decide +kernel
theorem dX6_idle_32 : decode cX6_idle 32 = .ok (.aload_n 0, 1) := by decide +kernel
theorem dX6_idle_33 : decode cX6_idle 33 = .ok (.getfield 12, 3) := by decide +kernel
theorem dX6_idle_36 : decode cX6_idle 36 = .ok (.iload_n 1, 1) := by decide +kernel
theorem dX6_idle_37 : decode cX6_idle 37 = .ok (.invokevirtual 76, 3) := by decide +kernel
theorem dX6_idle_40 : decode cX6_idle 40 = .ok (.ireturn, 1) := by decide +kernel
theorem dX6_fix_0 : decode cX6_fix 0 = .ok (.aload_n 0, 1) := by decide +kernel
theorem dX6_fix_1 : decode cX6_fix 1 = .ok (.getfield 12, 3) := by decide +kernel
theorem dX6_fix_4 : decode cX6_fix 4 = .ok (.getfield 79, 3) := by decide +kernel
theorem dX6_fix_7 : decode cX6_fix 7 = .ok (.iload_n 1, 1) := by decide +kernel
theorem dX6_fix_8 : decode cX6_fix 8 = .ok (.invokevirtual 83, 3) := by decide +kernel
theorem dX6_fix_11 : decode cX6_fix 11 = .ok (.ifCond .ne 13, 3) := by decide +kernel
theorem dX6_fix_14 : decode cX6_fix 14 = .ok (.new 48, 3) := by decide +kernel
theorem dX6_fix_17 : decode cX6_fix 17 = .ok (.dup, 1) := by decide +kernel
theorem dX6_fix_18 : decode cX6_fix 18 = .ok (.ldc 88, 2) := by decide +kernel
theorem dX6_fix_20 : decode cX6_fix 20 = .ok (.invokespecial 52, 3) := by decide +kernel
theorem dX6_fix_23 : decode cX6_fix 23 = .ok (.athrow, 1) := by decide +kernel
theorem dX6_fix_24 : decode cX6_fix 24 = .ok (.aload_n 0, 1) := by decide +kernel
theorem dX6_fix_25 : decode cX6_fix 25 = .ok (.getfield 12, 3) := by decide +kernel
theorem dX6_fix_28 : decode cX6_fix 28 = .ok (.iload_n 1, 1) := by decide +kernel
theorem dX6_fix_29 : decode cX6_fix 29 = .ok (.invokevirtual 90, 3) := by decide +kernel
theorem dX6_fix_32 : decode cX6_fix 32 = .ok (.ifCond .eq 13, 3) := by decide +kernel
theorem dX6_fix_35 : decode cX6_fix 35 = .ok (.new 59, 3) := by decide +kernel
theorem dX6_fix_38 : decode cX6_fix 38 = .ok (.dup, 1) := by decide +kernel
theorem dX6_fix_39 : decode cX6_fix 39 = .ok (.ldc 93, 2) := by decide +kernel
theorem dX6_fix_41 : decode cX6_fix 41 = .ok (.invokespecial 63, 3) := by decide +kernel
theorem dX6_fix_44 : decode cX6_fix 44 = .ok (.athrow, 1) := by decide +kernel
theorem dX6_fix_45 : decode cX6_fix 45 = .ok (.aload_n 0, 1) := by decide +kernel
theorem dX6_fix_46 : decode cX6_fix 46 = .ok (.getfield 19, 3) := by decide +kernel
theorem dX6_fix_49 : decode cX6_fix 49 = .ok (.aload_n 0, 1) := by decide +kernel
theorem dX6_fix_50 : decode cX6_fix 50 = .ok (.getfield 12, 3) := by decide +kernel
theorem dX6_fix_53 : decode cX6_fix 53 = .ok (.invokevirtual 64, 3) := by decide +kernel
theorem dX6_fix_56 : decode cX6_fix 56 = .ok (.aload_n 0, 1) := by decide +kernel
theorem dX6_fix_57 : decode cX6_fix 57 = .ok (.getfield 12, 3) := by decide +kernel
theorem dX6_fix_60 : decode cX6_fix 60 = .ok (.iload_n 1, 1) := by decide +kernel
theorem dX6_fix_61 : decode cX6_fix 61 = .ok (.invokevirtual 95, 3) := by decide +kernel
theorem dX6_fix_64 : decode cX6_fix 64 = .ok (.aload_n 0, 1) := by decide +kernel
theorem dX6_fix_65 : decode cX6_fix 65 = .ok (.getfield 12, 3) := by decide +kernel
theorem dX6_fix_68 : decode cX6_fix 68 = .ok (.getfield 79, 3) := by decide +kernel
theorem dX6_fix_71 : decode cX6_fix 71 = .ok (.invokevirtual 99, 3) := by decide +kernel
theorem dX6_fix_74 : decode cX6_fix 74 = .ok (.ireturn, 1) := by decide +kernel
theorem dX6_back_0 : decode cX6_back 0 = .ok (.aload_n 0, 1) := by decide +kernel
theorem dX6_back_1 : decode cX6_back 1 = .ok (.getfield 12, 3) := by decide +kernel
theorem dX6_back_4 : decode cX6_back 4 = .ok (.invokevirtual 103, 3) := by decide +kernel
theorem dX6_back_7 : decode cX6_back 7 = .ok (.ifCond .eq 13, 3) := by decide +kernel
theorem dX6_back_10 : decode cX6_back 10 = .ok (.new 59, 3) := by decide +kernel
theorem dX6_back_13 : decode cX6_back 13 = .ok (.dup, 1) := by decide +kernel
theorem dX6_back_14 : decode cX6_back 14 = .ok (.ldc 106, 2) := by decide +kernel
theorem dX6_back_16 : decode cX6_back 16 = .ok (.invokespecial 63, 3) := by decide +kernel
theorem dX6_back_19 : decode cX6_back 19 = .ok (.athrow, 1) := by decide +kernel
theorem dX6_back_20 : decode cX6_back 20 = .ok (.aload_n 0, 1) := by decide +kernel
theorem dX6_back_21 : decode cX6_back 21 = .ok (.getfield 19, 3) := by decide +kernel
theorem dX6_back_24 : decode cX6_back 24 = .ok (.aload_n 0, 1) := by decide +kernel
theorem dX6_back_25 : decode cX6_back 25 = .ok (.getfield 12, 3) := by decide +kernel
theorem dX6_back_28 : decode cX6_back 28 = .ok (.invokevirtual 64, 3) := by decide +kernel
theorem dX6_back_31 : decode cX6_back 31 = .ok (.aload_n 0, 1) := by decide +kernel
theorem dX6_back_32 : decode cX6_back 32 = .ok (.getfield 12, 3) := by decide +kernel
theorem dX6_back_35 : decode cX6_back 35 = .ok (.invokevirtual 108, 3) := by decide +kernel
theorem dX6_back_38 : decode cX6_back 38 = .ok (.aload_n 0, 1) := by decide +kernel
theorem dX6_back_39 : decode cX6_back 39 = .ok (.getfield 12, 3) := by decide +kernel
theorem dX6_back_42 : decode cX6_back 42 = .ok (.getfield 111, 3) := by decide +kernel
theorem dX6_back_45 : decode cX6_back 45 = .ok (.invokevirtual 114, 3) := by decide +kernel
theorem dX6_back_48 : decode cX6_back 48 = .ok (.ireturn, 1) := by decide +kernel
theorem dX6_swap_0 : decode cX6_swap 0 = .ok (.iload_n 1, 1) := by decide +kernel
theorem dX6_swap_1 : decode cX6_swap 1 = .ok (.invokestatic 44, 3) := by decide +kernel
theorem dX6_swap_4 : decode cX6_swap 4 = .ok (.ifCond .eq 10, 3) := by decide +kernel
theorem dX6_swap_7 : decode cX6_swap 7 = .ok (.iload_n 2, 1) := by decide +kernel
theorem dX6_swap_8 : decode cX6_swap 8 = .ok (.invokestatic 44, 3) := by decide +kernel
theorem dX6_swap_11 : decode cX6_swap 11 = .ok (.ifCond .ne 13, 3) := by decide +kernel
theorem dX6_swap_14 : decode cX6_swap 14 = .ok (.new 48, 3) := by decide +kernel
theorem dX6_swap_17 : decode cX6_swap 17 = .ok (.dup, 1) := by decide +kernel
theorem dX6_swap_18 : decode cX6_swap 18 = .ok (.ldc 117, 2) := by decide +kernel
theorem dX6_swap_20 : decode cX6_swap 20 = .ok (.invokespecial 52, 3) := by decide +kernel
theorem dX6_swap_23 : decode cX6_swap 23 = .ok (.athrow, 1) := by decide +kernel
theorem dX6_swap_24 : decode cX6_swap 24 = .ok (.aload_n 0, 1) := by decide +kernel
theorem dX6_swap_25 : decode cX6_swap 25 = .ok (.getfield 19, 3) := by decide +kernel
theorem dX6_swap_28 : decode cX6_swap 28 = .ok (.aload_n 0, 1) := by decide +kernel
theorem dX6_swap_29 : decode cX6_swap 29 = .ok (.getfield 12, 3) := by decide +kernel
theorem dX6_swap_32 : decode cX6_swap 32 = .ok (.invokevirtual 64, 3) := by decide +kernel
theorem dX6_swap_35 : decode cX6_swap 35 = .ok (.aload_n 0, 1) := by decide +kernel
theorem dX6_swap_36 : decode cX6_swap 36 = .ok (.getfield 12, 3) := by decide +kernel
theorem dX6_swap_39 : decode cX6_swap 39 = .ok (.iload_n 1, 1) := by decide +kernel
theorem dX6_swap_40 : decode cX6_swap 40 = .ok (.iload_n 2, 1) := by decide +kernel
theorem dX6_swap_41 : decode cX6_swap 41 = .ok (.invokevirtual 119, 3) := by decide +kernel
theorem dX6_swap_44 : decode cX6_swap 44 = .ok (.aload_n 0, 1) := by decide +kernel
theorem dX6_swap_45 : decode cX6_swap 45 = .ok (.getfield 12, 3) := by decide +kernel
theorem dX6_swap_48 : decode cX6_swap 48 = .ok (.getfield 111, 3) := by decide +kernel
theorem dX6_swap_51 : decode cX6_swap 51 = .ok (.invokevirtual 114, 3) := by decide +kernel
theorem dX6_swap_54 : decode cX6_swap 54 = .ok (.ireturn, 1) := by decide +kernel
theorem dX6_change_0 : decode cX6_change 0 = .ok (.iload_n 1, 1) := by decide +kernel
theorem dX6_change_1 : decode cX6_change 1 = .ok (.ifCond .lt 19, 3) := by decide +kernel
theorem dX6_change_4 : decode cX6_change 4 = .ok (.iload_n 1, 1) := by decide +kernel
theorem dX6_change_5 : decode cX6_change 5 = .ok (.getstatic 123, 3) := by decide +kernel
theorem dX6_change_8 : decode cX6_change 8 = .ok (.arraylength, 1) := by decide +kernel
theorem dX6_change_9 : decode cX6_change 9 = .ok (.if_icmp .ge 11, 3) := by decide +kernel
theorem dX6_change_12 : decode cX6_change 12 = .ok (.iload_n 1, 1) := by decide +kernel
theorem dX6_change_13 : decode cX6_change 13 = .ok (.getstatic 127, 3) := by decide +kernel
theorem dX6_change_16 : decode cX6_change 16 = .ok (.arraylength, 1) := by decide +kernel
theorem dX6_change_17 : decode cX6_change 17 = .ok (.if_icmp .lt 13, 3) := by decide +kernel
theorem dX6_change_20 : decode cX6_change 20 = .ok (.new 48, 3) := by decide +kernel
theorem dX6_change_23 : decode cX6_change 23 = .ok (.dup, 1) := by decide +kernel
theorem dX6_change_24 : decode cX6_change 24 = .ok (.ldc 130, 2) := by decide +kernel
theorem dX6_change_26 : decode cX6_change 26 = .ok (.invokespecial 52, 3) := by decide +kernel
theorem dX6_change_29 : decode cX6_change 29 = .ok (.athrow, 1) := by decide +kernel
theorem dX6_change_30 : decode cX6_change 30 = .ok (.iload_n 2, 1) := by decide +kernel
theorem dX6_change_31 : decode cX6_change 31 = .ok (.getstatic 123, 3) := by decide +kernel
theorem dX6_change_34 : decode cX6_change 34 = .ok (.iload_n 1, 1) := by decide +kernel
theorem dX6_change_35 : decode cX6_change 35 = .ok (.iaload, 1) := by decide +kernel
theorem dX6_change_36 : decode cX6_change 36 = .ok (.if_icmp .lt 12, 3) := by decide +kernel
theorem dX6_change_39 : decode cX6_change 39 = .ok (.iload_n 2, 1) := by decide +kernel
theorem dX6_change_40 : decode cX6_change 40 = .ok (.getstatic 127, 3) := by decide +kernel
theorem dX6_change_43 : decode cX6_change 43 = .ok (.iload_n 1, 1) := by decide +kernel
theorem dX6_change_44 : decode cX6_change 44 = .ok (.iaload, 1) := by decide +kernel
theorem dX6_change_45 : decode cX6_change 45 = .ok (.if_icmp .le 13, 3) := by decide +kernel
theorem dX6_change_48 : decode cX6_change 48 = .ok (.new 71, 3) := by decide +kernel
theorem dX6_change_51 : decode cX6_change 51 = .ok (.dup, 1) := by decide +kernel
theorem dX6_change_52 : decode cX6_change 52 = .ok (.ldc 132, 2) := by decide +kernel
theorem dX6_change_54 : decode cX6_change 54 = .ok (.invokespecial 75, 3) := by decide +kernel
theorem dX6_change_57 : decode cX6_change 57 = .ok (.athrow, 1) := by decide +kernel
theorem dX6_change_58 : decode cX6_change 58 = .ok (.aload_n 0, 1) := by decide +kernel
theorem dX6_change_59 : decode cX6_change 59 = .ok (.getfield 19, 3) := by decide +kernel
theorem dX6_change_62 : decode cX6_change 62 = .ok (.aload_n 0, 1) := by decide +kernel
theorem dX6_change_63 : decode cX6_change 63 = .ok (.getfield 12, 3) := by decide +kernel
theorem dX6_change_66 : decode cX6_change 66 = .ok (.invokevirtual 64, 3) := by decide +kernel
theorem dX6_change_69 : decode cX6_change 69 = .ok (.aload_n 0, 1) := by decide +kernel
theorem dX6_change_70 : decode cX6_change 70 = .ok (.getfield 12, 3) := by decide +kernel
theorem dX6_change_73 : decode cX6_change 73 = .ok (.iload_n 1, 1) := by decide +kernel
theorem dX6_change_74 : decode cX6_change 74 = .ok (.iload_n 2, 1) := by decide +kernel
theorem dX6_change_75 : decode cX6_change 75 = .ok (.invokevirtual 134, 3) := by decide +kernel
theorem dX6_change_78 : decode cX6_change 78 = .ok (.ireturn, 1) := by decide +kernel
theorem dX6_stopped_0 : decode cX6_stopped 0 = .ok (.iload_n 1, 1) := by decide +kernel
theorem dX6_stopped_1 : decode cX6_stopped 1 = .ok (.ifCond .lt 8, 3) := by decide +kernel
theorem dX6_stopped_4 : decode cX6_stopped 4 = .ok (.iload_n 1, 1) := by decide +kernel
theorem dX6_stopped_5 : decode cX6_stopped 5 = .ok (.iconst 1, 1) := by decide +kernel
theorem dX6_stopped_6 : decode cX6_stopped 6 = .ok (.if_icmp .le 13, 3) := by decide +kernel
theorem dX6_stopped_9 : decode cX6_stopped 9 = .ok (.new 71, 3) := by decide +kernel
theorem dX6_stopped_12 : decode cX6_stopped 12 = .ok (.dup, 1) := by decide +kernel
theorem dX6_stopped_13 : decode cX6_stopped 13 = .ok (.ldc 173, 2) := by decide +kernel
theorem dX6_stopped_15 : decode cX6_stopped 15 = .ok (.invokespecial 75, 3) := by decide +kernel
theorem dX6_stopped_18 : decode cX6_stopped 18 = .ok (.athrow, 1) := by decide +kernel
theorem dX6_stopped_19 : decode cX6_stopped 19 = .ok (.iload_n 1, 1) := by decide +kernel
theorem dX6_stopped_20 : decode cX6_stopped 20 = .ok (.ifCond .ne 13, 3) := by decide +kernel
theorem dX6_stopped_23 : decode cX6_stopped 23 = .ok (.aload_n 0, 1) := by decide +kernel
theorem dX6_stopped_24 : decode cX6_stopped 24 = .ok (.getfield 12, 3) := by decide +kernel
theorem dX6_stopped_27 : decode cX6_stopped 27 = .ok (.getfield 167, 3) := by decide +kernel
theorem dX6_stopped_30 : decode cX6_stopped 30 = .ok (.goto 10, 3) := by decide +kernel
theorem dX6_stopped_33 : decode cX6_stopped 33 = .ok (.aload_n 0, 1) := by decide +kernel
theorem dX6_stopped_34 : decode cX6_stopped 34 = .ok (.getfield 12, 3) := by decide +kernel
theorem dX6_stopped_37 : decode cX6_stopped 37 = .ok (.getfield 170, 3) := by decide +kernel
theorem dX6_stopped_40 : decode cX6_stopped 40 = .ok (.ireturn, 1) := by decide +kernel
theorem dX6_undo_0 : decode cX6_undo 0 = .ok (.aload_n 0, 1) := by decide +kernel
theorem dX6_undo_1 : decode cX6_undo 1 = .ok (.getfield 19, 3) := by decide +kernel
theorem dX6_undo_4 : decode cX6_undo 4 = .ok (.getfield 180, 3) := by decide +kernel
theorem dX6_undo_7 : decode cX6_undo 7 = .ok (.ifCond .gt 13, 3) := by decide +kernel
theorem dX6_undo_10 : decode cX6_undo 10 = .ok (.new 59, 3) := by decide +kernel
theorem dX6_undo_13 : decode cX6_undo 13 = .ok (.dup, 1) := by decide +kernel
theorem dX6_undo_14 : decode cX6_undo 14 = .ok (.ldc 183, 2) := by decide +kernel
theorem dX6_undo_16 : decode cX6_undo 16 = .ok (.invokespecial 63, 3) := by decide +kernel
theorem dX6_undo_19 : decode cX6_undo 19 = .ok (.athrow, 1) := by decide +kernel
theorem dX6_undo_20 : decode cX6_undo 20 = .ok (.aload_n 0, 1) := by decide +kernel
theorem dX6_undo_21 : decode cX6_undo 21 = .ok (.getfield 19, 3) := by decide +kernel
theorem dX6_undo_24 : decode cX6_undo 24 = .ok (.aload_n 0, 1) := by decide +kernel
theorem dX6_undo_25 : decode cX6_undo 25 = .ok (.getfield 12, 3) := by decide +kernel
theorem dX6_undo_28 : decode cX6_undo 28 = .ok (.invokevirtual 185, 3) := by decide +kernel
theorem dX6_undo_31 : decode cX6_undo 31 = .ok (.aload_n 0, 1) := by decide +kernel
theorem dX6_undo_32 : decode cX6_undo 32 = .ok (.getfield 19, 3) := by decide +kernel
theorem dX6_undo_35 : decode cX6_undo 35 = .ok (.getfield 180, 3) := by decide +kernel
theorem dX6_undo_38 : decode cX6_undo 38 = .ok (.ireturn, 1) := by decide +kernel
theorem dX6_keep_0 : decode cX6_keep 0 = .ok (.aload_n 0, 1) := by decide +kernel
theorem dX6_keep_1 : decode cX6_keep 1 = .ok (.getfield 23, 3) := by decide +kernel
theorem dX6_keep_4 : decode cX6_keep 4 = .ok (.aload_n 0, 1) := by decide +kernel
theorem dX6_keep_5 : decode cX6_keep 5 = .ok (.getfield 12, 3) := by decide +kernel
theorem dX6_keep_8 : decode cX6_keep 8 = .ok (.invokevirtual 188, 3) := by decide +kernel
theorem dX6_keep_11 : decode cX6_keep 11 = .ok (.aload_n 0, 1) := by decide +kernel
theorem dX6_keep_12 : decode cX6_keep 12 = .ok (.iconst 1, 1) := by decide +kernel
theorem dX6_keep_13 : decode cX6_keep 13 = .ok (.putfield 26, 3) := by decide +kernel
theorem dX6_keep_16 : decode cX6_keep 16 = .ok (.aload_n 0, 1) := by decide +kernel
theorem dX6_keep_17 : decode cX6_keep 17 = .ok (.getfield 12, 3) := by decide +kernel
theorem dX6_keep_20 : decode cX6_keep 20 = .ok (.getfield 79, 3) := by decide +kernel
theorem dX6_keep_23 : decode cX6_keep 23 = .ok (.getfield 191, 3) := by decide +kernel
theorem dX6_keep_26 : decode cX6_keep 26 = .ok (.ireturn, 1) := by decide +kernel
theorem dX6_restore_0 : decode cX6_restore 0 = .ok (.aload_n 0, 1) := by decide +kernel
theorem dX6_restore_1 : decode cX6_restore 1 = .ok (.getfield 26, 3) := by decide +kernel
theorem dX6_restore_4 : decode cX6_restore 4 = .ok (.ifCond .ne 13, 3) := by decide +kernel
theorem dX6_restore_7 : decode cX6_restore 7 = .ok (.new 59, 3) := by decide +kernel
theorem dX6_restore_10 : decode cX6_restore 10 = .ok (.dup, 1) := by decide +kernel
theorem dX6_restore_11 : decode cX6_restore 11 = .ok (.ldc 192, 2) := by decide +kernel
theorem dX6_restore_13 : decode cX6_restore 13 = .ok (.invokespecial 63, 3) := by decide +kernel
theorem dX6_restore_16 : decode cX6_restore 16 = .ok (.athrow, 1) := by decide +kernel
theorem dX6_restore_17 : decode cX6_restore 17 = .ok (.aload_n 0, 1) := by decide +kernel
theorem dX6_restore_18 : decode cX6_restore 18 = .ok (.getfield 19, 3) := by decide +kernel
theorem dX6_restore_21 : decode cX6_restore 21 = .ok (.aload_n 0, 1) := by decide +kernel
theorem dX6_restore_22 : decode cX6_restore 22 = .ok (.getfield 12, 3) := by decide +kernel
theorem dX6_restore_25 : decode cX6_restore 25 = .ok (.invokevirtual 64, 3) := by decide +kernel
theorem dX6_restore_28 : decode cX6_restore 28 = .ok (.aload_n 0, 1) := by decide +kernel
theorem dX6_restore_29 : decode cX6_restore 29 = .ok (.getfield 12, 3) := by decide +kernel
theorem dX6_restore_32 : decode cX6_restore 32 = .ok (.aload_n 0, 1) := by decide +kernel
theorem dX6_restore_33 : decode cX6_restore 33 = .ok (.getfield 23, 3) := by decide +kernel
theorem dX6_restore_36 : decode cX6_restore 36 = .ok (.invokevirtual 188, 3) := by decide +kernel
theorem dX6_restore_39 : decode cX6_restore 39 = .ok (.aload_n 0, 1) := by decide +kernel
theorem dX6_restore_40 : decode cX6_restore 40 = .ok (.getfield 12, 3) := by decide +kernel
theorem dX6_restore_43 : decode cX6_restore 43 = .ok (.getfield 79, 3) := by decide +kernel
theorem dX6_restore_46 : decode cX6_restore 46 = .ok (.getfield 191, 3) := by decide +kernel
theorem dX6_restore_49 : decode cX6_restore 49 = .ok (.ireturn, 1) := by decide +kernel
theorem dX6_box_0 : decode cX6_box 0 = .ok (.iload_n 1, 1) := by decide +kernel
theorem dX6_box_1 : decode cX6_box 1 = .ok (.invokestatic 44, 3) := by decide +kernel
theorem dX6_box_4 : decode cX6_box 4 = .ok (.ifCond .ne 13, 3) := by decide +kernel
theorem dX6_box_7 : decode cX6_box 7 = .ok (.new 48, 3) := by decide +kernel
theorem dX6_box_10 : decode cX6_box 10 = .ok (.dup, 1) := by decide +kernel
theorem dX6_box_11 : decode cX6_box 11 = .ok (.ldc 117, 2) := by decide +kernel
theorem dX6_box_13 : decode cX6_box 13 = .ok (.invokespecial 52, 3) := by decide +kernel
theorem dX6_box_16 : decode cX6_box 16 = .ok (.athrow, 1) := by decide +kernel
theorem dX6_box_17 : decode cX6_box 17 = .ok (.iload_n 2, 1) := by decide +kernel
theorem dX6_box_18 : decode cX6_box 18 = .ok (.ifCond .lt 9, 3) := by decide +kernel
theorem dX6_box_21 : decode cX6_box 21 = .ok (.iload_n 2, 1) := by decide +kernel
theorem dX6_box_22 : decode cX6_box 22 = .ok (.bipush 7, 2) := by decide +kernel
theorem dX6_box_24 : decode cX6_box 24 = .ok (.if_icmp .lt 13, 3) := by decide +kernel
theorem dX6_box_27 : decode cX6_box 27 = .ok (.new 71, 3) := by decide +kernel
theorem dX6_box_30 : decode cX6_box 30 = .ok (.dup, 1) := by decide +kernel
theorem dX6_box_31 : decode cX6_box 31 = .ok (.ldc 194, 2) := by decide +kernel
theorem dX6_box_33 : decode cX6_box 33 = .ok (.invokespecial 75, 3) := by decide +kernel
theorem dX6_box_36 : decode cX6_box 36 = .ok (.athrow, 1) := by decide +kernel
theorem dX6_box_37 : decode cX6_box 37 = .ok (.aload_n 0, 1) := by decide +kernel
theorem dX6_box_38 : decode cX6_box 38 = .ok (.iload_n 1, 1) := by decide +kernel
theorem dX6_box_39 : decode cX6_box 39 = .ok (.iload_n 2, 1) := by decide +kernel
theorem dX6_box_40 : decode cX6_box 40 = .ok (.invokevirtual 196, 3) := by decide +kernel
theorem dX6_box_43 : decode cX6_box 43 = .ok (.ireturn, 1) := by decide +kernel
theorem dX6_type_0 : decode cX6_type 0 = .ok (.iload_n 1, 1) := by decide +kernel
theorem dX6_type_1 : decode cX6_type 1 = .ok (.invokestatic 44, 3) := by decide +kernel
theorem dX6_type_4 : decode cX6_type 4 = .ok (.ifCond .ne 13, 3) := by decide +kernel
theorem dX6_type_7 : decode cX6_type 7 = .ok (.new 48, 3) := by decide +kernel
theorem dX6_type_10 : decode cX6_type 10 = .ok (.dup, 1) := by decide +kernel
theorem dX6_type_11 : decode cX6_type 11 = .ok (.ldc 117, 2) := by decide +kernel
theorem dX6_type_13 : decode cX6_type 13 = .ok (.invokespecial 52, 3) := by decide +kernel
theorem dX6_type_16 : decode cX6_type 16 = .ok (.athrow, 1) := by decide +kernel
theorem dX6_type_17 : decode cX6_type 17 = .ok (.iload_n 2, 1) := by decide +kernel
theorem dX6_type_18 : decode cX6_type 18 = .ok (.ifCond .ge 13, 3) := by decide +kernel
theorem dX6_type_21 : decode cX6_type 21 = .ok (.new 71, 3) := by decide +kernel
theorem dX6_type_24 : decode cX6_type 24 = .ok (.dup, 1) := by decide +kernel
theorem dX6_type_25 : decode cX6_type 25 = .ok (.ldc 199, 2) := by decide +kernel
theorem dX6_type_27 : decode cX6_type 27 = .ok (.invokespecial 75, 3) := by decide +kernel
theorem dX6_type_30 : decode cX6_type 30 = .ok (.athrow, 1) := by decide +kernel
theorem dX6_type_31 : decode cX6_type 31 = .ok (.aload_n 0, 1) := by decide +kernel
theorem dX6_type_32 : decode cX6_type 32 = .ok (.getfield 12, 3) := by decide +kernel
theorem dX6_type_35 : decode cX6_type 35 = .ok (.getfield 111, 3) := by decide +kernel
theorem dX6_type_38 : decode cX6_type 38 = .ok (.iload_n 1, 1) := by decide +kernel
theorem dX6_type_39 : decode cX6_type 39 = .ok (.iload_n 2, 1) := by decide +kernel
theorem dX6_type_40 : decode cX6_type 40 = .ok (.invokevirtual 201, 3) := by decide +kernel
theorem dX6_type_43 : decode cX6_type 43 = .ok (.ireturn, 1) := by decide +kernel
theorem dX6_line_0 : decode cX6_line 0 = .ok (.aload_n 0, 1) := by decide +kernel
theorem dX6_line_1 : decode cX6_line 1 = .ok (.getfield 12, 3) := by decide +kernel
theorem dX6_line_4 : decode cX6_line 4 = .ok (.getfield 79, 3) := by decide +kernel
theorem dX6_line_7 : decode cX6_line 7 = .ok (.iload_n 1, 1) := by decide +kernel
theorem dX6_line_8 : decode cX6_line 8 = .ok (.invokevirtual 83, 3) := by decide +kernel
theorem dX6_line_11 : decode cX6_line 11 = .ok (.ifCond .ne 13, 3) := by decide +kernel
theorem dX6_line_14 : decode cX6_line 14 = .ok (.new 48, 3) := by decide +kernel
theorem dX6_line_17 : decode cX6_line 17 = .ok (.dup, 1) := by decide +kernel
theorem dX6_line_18 : decode cX6_line 18 = .ok (.ldc 88, 2) := by decide +kernel
theorem dX6_line_20 : decode cX6_line 20 = .ok (.invokespecial 52, 3) := by decide +kernel
theorem dX6_line_23 : decode cX6_line 23 = .ok (.athrow, 1) := by decide +kernel
theorem dX6_line_24 : decode cX6_line 24 = .ok (.iload_n 2, 1) := by decide +kernel
theorem dX6_line_25 : decode cX6_line 25 = .ok (.ifCond .lt 8, 3) := by decide +kernel
theorem dX6_line_28 : decode cX6_line 28 = .ok (.iload_n 2, 1) := by decide +kernel
theorem dX6_line_29 : decode cX6_line 29 = .ok (.iconst 4, 1) := by decide +kernel
theorem dX6_line_30 : decode cX6_line 30 = .ok (.if_icmp .lt 13, 3) := by decide +kernel
theorem dX6_line_33 : decode cX6_line 33 = .ok (.new 71, 3) := by decide +kernel
theorem dX6_line_36 : decode cX6_line 36 = .ok (.dup, 1) := by decide +kernel
theorem dX6_line_37 : decode cX6_line 37 = .ok (.ldc 204, 2) := by decide +kernel
theorem dX6_line_39 : decode cX6_line 39 = .ok (.invokespecial 75, 3) := by decide +kernel
theorem dX6_line_42 : decode cX6_line 42 = .ok (.athrow, 1) := by decide +kernel
theorem dX6_line_43 : decode cX6_line 43 = .ok (.aload_n 0, 1) := by decide +kernel
theorem dX6_line_44 : decode cX6_line 44 = .ok (.iload_n 1, 1) := by decide +kernel
theorem dX6_line_45 : decode cX6_line 45 = .ok (.iload_n 2, 1) := by decide +kernel
theorem dX6_line_46 : decode cX6_line 46 = .ok (.invokevirtual 206, 3) := by decide +kernel
theorem dX6_line_49 : decode cX6_line 49 = .ok (.ireturn, 1) := by decide +kernel
theorem dX6_count_0 : decode cX6_count 0 = .ok (.iload_n 1, 1) := by decide +kernel
theorem dX6_count_1 : decode cX6_count 1 = .ok (.ifCond .lt 9, 3) := by decide +kernel
theorem dX6_count_4 : decode cX6_count 4 = .ok (.iload_n 1, 1) := by decide +kernel
theorem dX6_count_5 : decode cX6_count 5 = .ok (.bipush 18, 2) := by decide +kernel
theorem dX6_count_7 : decode cX6_count 7 = .ok (.if_icmp .lt 13, 3) := by decide +kernel
theorem dX6_count_10 : decode cX6_count 10 = .ok (.new 71, 3) := by decide +kernel
theorem dX6_count_13 : decode cX6_count 13 = .ok (.dup, 1) := by decide +kernel
theorem dX6_count_14 : decode cX6_count 14 = .ok (.ldc 209, 2) := by decide +kernel
theorem dX6_count_16 : decode cX6_count 16 = .ok (.invokespecial 75, 3) := by decide +kernel
theorem dX6_count_19 : decode cX6_count 19 = .ok (.athrow, 1) := by decide +kernel
theorem dX6_count_20 : decode cX6_count 20 = .ok (.aload_n 0, 1) := by decide +kernel
theorem dX6_count_21 : decode cX6_count 21 = .ok (.iload_n 1, 1) := by decide +kernel
theorem dX6_count_22 : decode cX6_count 22 = .ok (.invokevirtual 211, 3) := by decide +kernel
theorem dX6_count_25 : decode cX6_count 25 = .ok (.ireturn, 1) := by decide +kernel
theorem dX6_whyNot_0 : decode cX6_whyNot 0 = .ok (.iload_n 1, 1) := by decide +kernel
theorem dX6_whyNot_1 : decode cX6_whyNot 1 = .ok (.invokestatic 44, 3) := by decide +kernel
theorem dX6_whyNot_4 : decode cX6_whyNot 4 = .ok (.ifCond .ne 13, 3) := by decide +kernel
theorem dX6_whyNot_7 : decode cX6_whyNot 7 = .ok (.new 48, 3) := by decide +kernel
theorem dX6_whyNot_10 : decode cX6_whyNot 10 = .ok (.dup, 1) := by decide +kernel
theorem dX6_whyNot_11 : decode cX6_whyNot 11 = .ok (.ldc 50, 2) := by decide +kernel
theorem dX6_whyNot_13 : decode cX6_whyNot 13 = .ok (.invokespecial 52, 3) := by decide +kernel
theorem dX6_whyNot_16 : decode cX6_whyNot 16 = .ok (.athrow, 1) := by decide +kernel
theorem dX6_whyNot_17 : decode cX6_whyNot 17 = .ok (.aload_n 0, 1) := by decide +kernel
theorem dX6_whyNot_18 : decode cX6_whyNot 18 = .ok (.getfield 12, 3) := by decide +kernel
theorem dX6_whyNot_21 : decode cX6_whyNot 21 = .ok (.iload_n 1, 1) := by decide +kernel
theorem dX6_whyNot_22 : decode cX6_whyNot 22 = .ok (.invokevirtual 55, 3) := by decide +kernel
theorem dX6_whyNot_25 : decode cX6_whyNot 25 = .ok (.ireturn, 1) := by decide +kernel
theorem dX6_sortedIn_0 : decode cX6_sortedIn 0 = .ok (.aload_n 0, 1) := by decide +kernel
theorem dX6_sortedIn_1 : decode cX6_sortedIn 1 = .ok (.getfield 40, 3) := by decide +kernel
theorem dX6_sortedIn_4 : decode cX6_sortedIn 4 = .ok (.aload_n 0, 1) := by decide +kernel
theorem dX6_sortedIn_5 : decode cX6_sortedIn 5 = .ok (.getfield 12, 3) := by decide +kernel
theorem dX6_sortedIn_8 : decode cX6_sortedIn 8 = .ok (.getfield 111, 3) := by decide +kernel
theorem dX6_sortedIn_11 : decode cX6_sortedIn 11 = .ok (.invokevirtual 219, 3) := by decide +kernel
theorem dX6_sortedIn_14 : decode cX6_sortedIn 14 = .ok (.aload_n 0, 1) := by decide +kernel
theorem dX6_sortedIn_15 : decode cX6_sortedIn 15 = .ok (.getfield 40, 3) := by decide +kernel
theorem dX6_sortedIn_18 : decode cX6_sortedIn 18 = .ok (.invokevirtual 222, 3) := by decide +kernel
theorem dX6_sortedIn_21 : decode cX6_sortedIn 21 = .ok (.ireturn, 1) := by decide +kernel
theorem dX6_wrongThen_0 : decode cX6_wrongThen 0 = .ok (.aload_n 0, 1) := by decide +kernel
theorem dX6_wrongThen_1 : decode cX6_wrongThen 1 = .ok (.getfield 40, 3) := by decide +kernel
theorem dX6_wrongThen_4 : decode cX6_wrongThen 4 = .ok (.aload_n 0, 1) := by decide +kernel
theorem dX6_wrongThen_5 : decode cX6_wrongThen 5 = .ok (.getfield 12, 3) := by decide +kernel
theorem dX6_wrongThen_8 : decode cX6_wrongThen 8 = .ok (.getfield 111, 3) := by decide +kernel
theorem dX6_wrongThen_11 : decode cX6_wrongThen 11 = .ok (.invokevirtual 219, 3) := by decide +kernel
theorem dX6_wrongThen_14 : decode cX6_wrongThen 14 = .ok (.aload_n 0, 1) := by decide +kernel
theorem dX6_wrongThen_15 : decode cX6_wrongThen 15 = .ok (.getfield 40, 3) := by decide +kernel
theorem dX6_wrongThen_18 : decode cX6_wrongThen 18 = .ok (.invokevirtual 222, 3) := by decide +kernel
theorem dX6_wrongThen_21 : decode cX6_wrongThen 21 = .ok (.pop, 1) := by decide +kernel
theorem dX6_wrongThen_22 : decode cX6_wrongThen 22 = .ok (.aload_n 0, 1) := by decide +kernel
theorem dX6_wrongThen_23 : decode cX6_wrongThen 23 = .ok (.getfield 40, 3) := by decide +kernel
theorem dX6_wrongThen_26 : decode cX6_wrongThen 26 = .ok (.invokevirtual 114, 3) := by decide +kernel
theorem dX6_wrongThen_29 : decode cX6_wrongThen 29 = .ok (.ireturn, 1) := by decide +kernel
theorem dX6_rightShare_0 : decode cX6_rightShare 0 = .ok (.aload_n 0, 1) := by decide +kernel
theorem dX6_rightShare_1 : decode cX6_rightShare 1 = .ok (.getfield 12, 3) := by decide +kernel
theorem dX6_rightShare_4 : decode cX6_rightShare 4 = .ok (.getfield 79, 3) := by decide +kernel
theorem dX6_rightShare_7 : decode cX6_rightShare 7 = .ok (.getfield 191, 3) := by decide +kernel
theorem dX6_rightShare_10 : decode cX6_rightShare 10 = .ok (.istore_n 1, 1) := by decide +kernel
theorem dX6_rightShare_11 : decode cX6_rightShare 11 = .ok (.iload_n 1, 1) := by decide +kernel
theorem dX6_rightShare_12 : decode cX6_rightShare 12 = .ok (.ifCond .gt 5, 3) := by decide +kernel
theorem dX6_rightShare_15 : decode cX6_rightShare 15 = .ok (.dconst 1, 1) := by decide +kernel
theorem dX6_rightShare_16 : decode cX6_rightShare 16 = .ok (.dreturn, 1) := by decide +kernel
theorem dX6_rightShare_17 : decode cX6_rightShare 17 = .ok (.iload_n 1, 1) := by decide +kernel
theorem dX6_rightShare_18 : decode cX6_rightShare 18 = .ok (.aload_n 0, 1) := by decide +kernel
theorem dX6_rightShare_19 : decode cX6_rightShare 19 = .ok (.getfield 12, 3) := by decide +kernel
theorem dX6_rightShare_22 : decode cX6_rightShare 22 = .ok (.getfield 79, 3) := by decide +kernel
theorem dX6_rightShare_25 : decode cX6_rightShare 25 = .ok (.invokevirtual 99, 3) := by decide +kernel
theorem dX6_rightShare_28 : decode cX6_rightShare 28 = .ok (.isub, 1) := by decide +kernel
theorem dX6_rightShare_29 : decode cX6_rightShare 29 = .ok (.i2d, 1) := by decide +kernel
theorem dX6_rightShare_30 : decode cX6_rightShare 30 = .ok (.iload_n 1, 1) := by decide +kernel
theorem dX6_rightShare_31 : decode cX6_rightShare 31 = .ok (.i2d, 1) := by decide +kernel
theorem dX6_rightShare_32 : decode cX6_rightShare 32 = .ok (.ddiv, 1) := by decide +kernel
theorem dX6_rightShare_33 : decode cX6_rightShare 33 = .ok (.dreturn, 1) := by decide +kernel
theorem dX6_isSort_0 : decode cX6_isSort 0 = .ok (.iload_n 0, 1) := by decide +kernel
theorem dX6_isSort_1 : decode cX6_isSort 1 = .ok (.ifCond .lt 13, 3) := by decide +kernel
theorem dX6_isSort_4 : decode cX6_isSort 4 = .ok (.iload_n 0, 1) := by decide +kernel
theorem dX6_isSort_5 : decode cX6_isSort 5 = .ok (.bipush 12, 2) := by decide +kernel
theorem dX6_isSort_7 : decode cX6_isSort 7 = .ok (.if_icmp .ge 7, 3) := by decide +kernel
theorem dX6_isSort_10 : decode cX6_isSort 10 = .ok (.iconst 1, 1) := by decide +kernel
theorem dX6_isSort_11 : decode cX6_isSort 11 = .ok (.goto 4, 3) := by decide +kernel
theorem dX6_isSort_14 : decode cX6_isSort 14 = .ok (.iconst 0, 1) := by decide +kernel
theorem dX6_isSort_15 : decode cX6_isSort 15 = .ok (.ireturn, 1) := by decide +kernel
theorem dX6_widthOf_0 : decode cX6_widthOf 0 = .ok (.iconst 2, 1) := by decide +kernel
theorem dX6_widthOf_1 : decode cX6_widthOf 1 = .ok (.iload_n 0, 1) := by decide +kernel
theorem dX6_widthOf_2 : decode cX6_widthOf 2 = .ok (.iconst 3, 1) := by decide +kernel
theorem dX6_widthOf_3 : decode cX6_widthOf 3 = .ok (.irem, 1) := by decide +kernel
theorem dX6_widthOf_4 : decode cX6_widthOf 4 = .ok (.iadd, 1) := by decide +kernel
theorem dX6_widthOf_5 : decode cX6_widthOf 5 = .ok (.ireturn, 1) := by decide +kernel
theorem dX6_numberOfBox_0 : decode cX6_numberOfBox 0 = .ok (.iload_n 2, 1) := by decide +kernel
theorem dX6_numberOfBox_1 : decode cX6_numberOfBox 1 = .ok (.tableswitch 118 0 5 #[39, 51, 63, 76, 81, 98], 39) := by decide +kernel
theorem dX6_numberOfBox_40 : decode cX6_numberOfBox 40 = .ok (.aload_n 0, 1) := by decide +kernel
theorem dX6_numberOfBox_41 : decode cX6_numberOfBox 41 = .ok (.getfield 12, 3) := by decide +kernel
theorem dX6_numberOfBox_44 : decode cX6_numberOfBox 44 = .ok (.getfield 111, 3) := by decide +kernel
theorem dX6_numberOfBox_47 : decode cX6_numberOfBox 47 = .ok (.iload_n 1, 1) := by decide +kernel
theorem dX6_numberOfBox_48 : decode cX6_numberOfBox 48 = .ok (.invokevirtual 256, 3) := by decide +kernel
theorem dX6_numberOfBox_51 : decode cX6_numberOfBox 51 = .ok (.ireturn, 1) := by decide +kernel
theorem dX6_numberOfBox_52 : decode cX6_numberOfBox 52 = .ok (.aload_n 0, 1) := by decide +kernel
theorem dX6_numberOfBox_53 : decode cX6_numberOfBox 53 = .ok (.getfield 12, 3) := by decide +kernel
theorem dX6_numberOfBox_56 : decode cX6_numberOfBox 56 = .ok (.getfield 111, 3) := by decide +kernel
theorem dX6_numberOfBox_59 : decode cX6_numberOfBox 59 = .ok (.iload_n 1, 1) := by decide +kernel
theorem dX6_numberOfBox_60 : decode cX6_numberOfBox 60 = .ok (.invokevirtual 259, 3) := by decide +kernel
theorem dX6_numberOfBox_63 : decode cX6_numberOfBox 63 = .ok (.ireturn, 1) := by decide +kernel
theorem dX6_numberOfBox_64 : decode cX6_numberOfBox 64 = .ok (.aload_n 0, 1) := by decide +kernel
theorem dX6_numberOfBox_65 : decode cX6_numberOfBox 65 = .ok (.getfield 12, 3) := by decide +kernel
theorem dX6_numberOfBox_68 : decode cX6_numberOfBox 68 = .ok (.getfield 111, 3) := by decide +kernel
theorem dX6_numberOfBox_71 : decode cX6_numberOfBox 71 = .ok (.iload_n 1, 1) := by decide +kernel
theorem dX6_numberOfBox_72 : decode cX6_numberOfBox 72 = .ok (.iconst 0, 1) := by decide +kernel
theorem dX6_numberOfBox_73 : decode cX6_numberOfBox 73 = .ok (.invokevirtual 201, 3) := by decide +kernel
theorem dX6_numberOfBox_76 : decode cX6_numberOfBox 76 = .ok (.ireturn, 1) := by decide +kernel
theorem dX6_numberOfBox_77 : decode cX6_numberOfBox 77 = .ok (.iload_n 1, 1) := by decide +kernel
theorem dX6_numberOfBox_78 : decode cX6_numberOfBox 78 = .ok (.invokestatic 262, 3) := by decide +kernel
theorem dX6_numberOfBox_81 : decode cX6_numberOfBox 81 = .ok (.ireturn, 1) := by decide +kernel
theorem dX6_numberOfBox_82 : decode cX6_numberOfBox 82 = .ok (.aload_n 0, 1) := by decide +kernel
theorem dX6_numberOfBox_83 : decode cX6_numberOfBox 83 = .ok (.getfield 12, 3) := by decide +kernel
theorem dX6_numberOfBox_86 : decode cX6_numberOfBox 86 = .ok (.getfield 265, 3) := by decide +kernel
theorem dX6_numberOfBox_89 : decode cX6_numberOfBox 89 = .ok (.iload_n 1, 1) := by decide +kernel
theorem dX6_numberOfBox_90 : decode cX6_numberOfBox 90 = .ok (.if_icmp .ne 7, 3) := by decide +kernel
theorem dX6_numberOfBox_93 : decode cX6_numberOfBox 93 = .ok (.iconst 1, 1) := by decide +kernel
theorem dX6_numberOfBox_94 : decode cX6_numberOfBox 94 = .ok (.goto 4, 3) := by decide +kernel
theorem dX6_numberOfBox_97 : decode cX6_numberOfBox 97 = .ok (.iconst 0, 1) := by decide +kernel
theorem dX6_numberOfBox_98 : decode cX6_numberOfBox 98 = .ok (.ireturn, 1) := by decide +kernel
theorem dX6_numberOfBox_99 : decode cX6_numberOfBox 99 = .ok (.aload_n 0, 1) := by decide +kernel
theorem dX6_numberOfBox_100 : decode cX6_numberOfBox 100 = .ok (.getfield 12, 3) := by decide +kernel
theorem dX6_numberOfBox_103 : decode cX6_numberOfBox 103 = .ok (.getfield 111, 3) := by decide +kernel
theorem dX6_numberOfBox_106 : decode cX6_numberOfBox 106 = .ok (.getfield 268, 3) := by decide +kernel
theorem dX6_numberOfBox_109 : decode cX6_numberOfBox 109 = .ok (.iload_n 1, 1) := by decide +kernel
theorem dX6_numberOfBox_110 : decode cX6_numberOfBox 110 = .ok (.if_icmp .ne 7, 3) := by decide +kernel
theorem dX6_numberOfBox_113 : decode cX6_numberOfBox 113 = .ok (.iconst 1, 1) := by decide +kernel
theorem dX6_numberOfBox_114 : decode cX6_numberOfBox 114 = .ok (.goto 4, 3) := by decide +kernel
theorem dX6_numberOfBox_117 : decode cX6_numberOfBox 117 = .ok (.iconst 0, 1) := by decide +kernel
theorem dX6_numberOfBox_118 : decode cX6_numberOfBox 118 = .ok (.ireturn, 1) := by decide +kernel
theorem dX6_numberOfBox_119 : decode cX6_numberOfBox 119 = .ok (.aload_n 0, 1) := by decide +kernel
theorem dX6_numberOfBox_120 : decode cX6_numberOfBox 120 = .ok (.getfield 12, 3) := by decide +kernel
theorem dX6_numberOfBox_123 : decode cX6_numberOfBox 123 = .ok (.getfield 111, 3) := by decide +kernel
theorem dX6_numberOfBox_126 : decode cX6_numberOfBox 126 = .ok (.iload_n 1, 1) := by decide +kernel
theorem dX6_numberOfBox_127 : decode cX6_numberOfBox 127 = .ok (.invokevirtual 271, 3) := by decide +kernel
theorem dX6_numberOfBox_130 : decode cX6_numberOfBox 130 = .ok (.ireturn, 1) := by decide +kernel
theorem dX6_numberOfPlace_0 : decode cX6_numberOfPlace 0 = .ok (.iload_n 2, 1) := by decide +kernel
theorem dX6_numberOfPlace_1 : decode cX6_numberOfPlace 1 = .ok (.tableswitch 71 0 2 #[27, 39, 51], 27) := by decide +kernel
theorem dX6_numberOfPlace_28 : decode cX6_numberOfPlace 28 = .ok (.aload_n 0, 1) := by decide +kernel
theorem dX6_numberOfPlace_29 : decode cX6_numberOfPlace 29 = .ok (.getfield 12, 3) := by decide +kernel
theorem dX6_numberOfPlace_32 : decode cX6_numberOfPlace 32 = .ok (.getfield 79, 3) := by decide +kernel
theorem dX6_numberOfPlace_35 : decode cX6_numberOfPlace 35 = .ok (.iload_n 1, 1) := by decide +kernel
theorem dX6_numberOfPlace_36 : decode cX6_numberOfPlace 36 = .ok (.invokevirtual 274, 3) := by decide +kernel
theorem dX6_numberOfPlace_39 : decode cX6_numberOfPlace 39 = .ok (.ireturn, 1) := by decide +kernel
theorem dX6_numberOfPlace_40 : decode cX6_numberOfPlace 40 = .ok (.aload_n 0, 1) := by decide +kernel
theorem dX6_numberOfPlace_41 : decode cX6_numberOfPlace 41 = .ok (.getfield 12, 3) := by decide +kernel
theorem dX6_numberOfPlace_44 : decode cX6_numberOfPlace 44 = .ok (.getfield 79, 3) := by decide +kernel
theorem dX6_numberOfPlace_47 : decode cX6_numberOfPlace 47 = .ok (.iload_n 1, 1) := by decide +kernel
theorem dX6_numberOfPlace_48 : decode cX6_numberOfPlace 48 = .ok (.invokevirtual 277, 3) := by decide +kernel
theorem dX6_numberOfPlace_51 : decode cX6_numberOfPlace 51 = .ok (.ireturn, 1) := by decide +kernel
theorem dX6_numberOfPlace_52 : decode cX6_numberOfPlace 52 = .ok (.aload_n 0, 1) := by decide +kernel
theorem dX6_numberOfPlace_53 : decode cX6_numberOfPlace 53 = .ok (.getfield 12, 3) := by decide +kernel
theorem dX6_numberOfPlace_56 : decode cX6_numberOfPlace 56 = .ok (.getfield 79, 3) := by decide +kernel
theorem dX6_numberOfPlace_59 : decode cX6_numberOfPlace 59 = .ok (.iload_n 1, 1) := by decide +kernel
theorem dX6_numberOfPlace_60 : decode cX6_numberOfPlace 60 = .ok (.invokevirtual 280, 3) := by decide +kernel
theorem dX6_numberOfPlace_63 : decode cX6_numberOfPlace 63 = .ok (.ifCond .eq 7, 3) := by decide +kernel
theorem dX6_numberOfPlace_66 : decode cX6_numberOfPlace 66 = .ok (.iconst 1, 1) := by decide +kernel
theorem dX6_numberOfPlace_67 : decode cX6_numberOfPlace 67 = .ok (.goto 4, 3) := by decide +kernel
theorem dX6_numberOfPlace_70 : decode cX6_numberOfPlace 70 = .ok (.iconst 0, 1) := by decide +kernel
theorem dX6_numberOfPlace_71 : decode cX6_numberOfPlace 71 = .ok (.ireturn, 1) := by decide +kernel
theorem dX6_numberOfPlace_72 : decode cX6_numberOfPlace 72 = .ok (.aload_n 0, 1) := by decide +kernel
theorem dX6_numberOfPlace_73 : decode cX6_numberOfPlace 73 = .ok (.getfield 12, 3) := by decide +kernel
theorem dX6_numberOfPlace_76 : decode cX6_numberOfPlace 76 = .ok (.iload_n 1, 1) := by decide +kernel
theorem dX6_numberOfPlace_77 : decode cX6_numberOfPlace 77 = .ok (.invokevirtual 90, 3) := by decide +kernel
theorem dX6_numberOfPlace_80 : decode cX6_numberOfPlace 80 = .ok (.ireturn, 1) := by decide +kernel
theorem dX6_numberOfAll_0 : decode cX6_numberOfAll 0 = .ok (.iload_n 1, 1) := by decide +kernel
theorem dX6_numberOfAll_1 : decode cX6_numberOfAll 1 = .ok (.tableswitch 236 0 16 #[83, 94, 105, 116, 127, 138, 146, 165, 173, 184, 192, 200, 208, 216, 224, 224, 224], 83) := by decide +kernel
theorem dX6_numberOfAll_84 : decode cX6_numberOfAll 84 = .ok (.aload_n 0, 1) := by decide +kernel
theorem dX6_numberOfAll_85 : decode cX6_numberOfAll 85 = .ok (.getfield 12, 3) := by decide +kernel
theorem dX6_numberOfAll_88 : decode cX6_numberOfAll 88 = .ok (.getfield 79, 3) := by decide +kernel
theorem dX6_numberOfAll_91 : decode cX6_numberOfAll 91 = .ok (.getfield 191, 3) := by decide +kernel
theorem dX6_numberOfAll_94 : decode cX6_numberOfAll 94 = .ok (.ireturn, 1) := by decide +kernel
theorem dX6_numberOfAll_95 : decode cX6_numberOfAll 95 = .ok (.aload_n 0, 1) := by decide +kernel
theorem dX6_numberOfAll_96 : decode cX6_numberOfAll 96 = .ok (.getfield 12, 3) := by decide +kernel
theorem dX6_numberOfAll_99 : decode cX6_numberOfAll 99 = .ok (.getfield 79, 3) := by decide +kernel
theorem dX6_numberOfAll_102 : decode cX6_numberOfAll 102 = .ok (.invokevirtual 283, 3) := by decide +kernel
theorem dX6_numberOfAll_105 : decode cX6_numberOfAll 105 = .ok (.ireturn, 1) := by decide +kernel
theorem dX6_numberOfAll_106 : decode cX6_numberOfAll 106 = .ok (.aload_n 0, 1) := by decide +kernel
theorem dX6_numberOfAll_107 : decode cX6_numberOfAll 107 = .ok (.getfield 12, 3) := by decide +kernel
theorem dX6_numberOfAll_110 : decode cX6_numberOfAll 110 = .ok (.getfield 79, 3) := by decide +kernel
theorem dX6_numberOfAll_113 : decode cX6_numberOfAll 113 = .ok (.invokevirtual 99, 3) := by decide +kernel
theorem dX6_numberOfAll_116 : decode cX6_numberOfAll 116 = .ok (.ireturn, 1) := by decide +kernel
theorem dX6_numberOfAll_117 : decode cX6_numberOfAll 117 = .ok (.aload_n 0, 1) := by decide +kernel
theorem dX6_numberOfAll_118 : decode cX6_numberOfAll 118 = .ok (.getfield 12, 3) := by decide +kernel
theorem dX6_numberOfAll_121 : decode cX6_numberOfAll 121 = .ok (.getfield 111, 3) := by decide +kernel
theorem dX6_numberOfAll_124 : decode cX6_numberOfAll 124 = .ok (.invokevirtual 286, 3) := by decide +kernel
theorem dX6_numberOfAll_127 : decode cX6_numberOfAll 127 = .ok (.ireturn, 1) := by decide +kernel
theorem dX6_numberOfAll_128 : decode cX6_numberOfAll 128 = .ok (.aload_n 0, 1) := by decide +kernel
theorem dX6_numberOfAll_129 : decode cX6_numberOfAll 129 = .ok (.getfield 12, 3) := by decide +kernel
theorem dX6_numberOfAll_132 : decode cX6_numberOfAll 132 = .ok (.getfield 111, 3) := by decide +kernel
theorem dX6_numberOfAll_135 : decode cX6_numberOfAll 135 = .ok (.invokevirtual 114, 3) := by decide +kernel
theorem dX6_numberOfAll_138 : decode cX6_numberOfAll 138 = .ok (.ireturn, 1) := by decide +kernel
theorem dX6_numberOfAll_139 : decode cX6_numberOfAll 139 = .ok (.aload_n 0, 1) := by decide +kernel
theorem dX6_numberOfAll_140 : decode cX6_numberOfAll 140 = .ok (.getfield 12, 3) := by decide +kernel
theorem dX6_numberOfAll_143 : decode cX6_numberOfAll 143 = .ok (.invokevirtual 289, 3) := by decide +kernel
theorem dX6_numberOfAll_146 : decode cX6_numberOfAll 146 = .ok (.ireturn, 1) := by decide +kernel
theorem dX6_numberOfAll_147 : decode cX6_numberOfAll 147 = .ok (.aload_n 0, 1) := by decide +kernel
theorem dX6_numberOfAll_148 : decode cX6_numberOfAll 148 = .ok (.getfield 12, 3) := by decide +kernel
theorem dX6_numberOfAll_151 : decode cX6_numberOfAll 151 = .ok (.getfield 111, 3) := by decide +kernel
theorem dX6_numberOfAll_154 : decode cX6_numberOfAll 154 = .ok (.invokevirtual 114, 3) := by decide +kernel
theorem dX6_numberOfAll_157 : decode cX6_numberOfAll 157 = .ok (.ifCond .ne 7, 3) := by decide +kernel
theorem dX6_numberOfAll_160 : decode cX6_numberOfAll 160 = .ok (.iconst 1, 1) := by decide +kernel
theorem dX6_numberOfAll_161 : decode cX6_numberOfAll 161 = .ok (.goto 4, 3) := by decide +kernel
theorem dX6_numberOfAll_164 : decode cX6_numberOfAll 164 = .ok (.iconst 0, 1) := by decide +kernel
theorem dX6_numberOfAll_165 : decode cX6_numberOfAll 165 = .ok (.ireturn, 1) := by decide +kernel
theorem dX6_numberOfAll_166 : decode cX6_numberOfAll 166 = .ok (.aload_n 0, 1) := by decide +kernel
theorem dX6_numberOfAll_167 : decode cX6_numberOfAll 167 = .ok (.getfield 12, 3) := by decide +kernel
theorem dX6_numberOfAll_170 : decode cX6_numberOfAll 170 = .ok (.getfield 265, 3) := by decide +kernel
theorem dX6_numberOfAll_173 : decode cX6_numberOfAll 173 = .ok (.ireturn, 1) := by decide +kernel
theorem dX6_numberOfAll_174 : decode cX6_numberOfAll 174 = .ok (.aload_n 0, 1) := by decide +kernel
theorem dX6_numberOfAll_175 : decode cX6_numberOfAll 175 = .ok (.getfield 12, 3) := by decide +kernel
theorem dX6_numberOfAll_178 : decode cX6_numberOfAll 178 = .ok (.getfield 111, 3) := by decide +kernel
theorem dX6_numberOfAll_181 : decode cX6_numberOfAll 181 = .ok (.getfield 268, 3) := by decide +kernel
theorem dX6_numberOfAll_184 : decode cX6_numberOfAll 184 = .ok (.ireturn, 1) := by decide +kernel
theorem dX6_numberOfAll_185 : decode cX6_numberOfAll 185 = .ok (.aload_n 0, 1) := by decide +kernel
theorem dX6_numberOfAll_186 : decode cX6_numberOfAll 186 = .ok (.getfield 12, 3) := by decide +kernel
theorem dX6_numberOfAll_189 : decode cX6_numberOfAll 189 = .ok (.getfield 292, 3) := by decide +kernel
theorem dX6_numberOfAll_192 : decode cX6_numberOfAll 192 = .ok (.ireturn, 1) := by decide +kernel
theorem dX6_numberOfAll_193 : decode cX6_numberOfAll 193 = .ok (.aload_n 0, 1) := by decide +kernel
theorem dX6_numberOfAll_194 : decode cX6_numberOfAll 194 = .ok (.getfield 12, 3) := by decide +kernel
theorem dX6_numberOfAll_197 : decode cX6_numberOfAll 197 = .ok (.getfield 295, 3) := by decide +kernel
theorem dX6_numberOfAll_200 : decode cX6_numberOfAll 200 = .ok (.ireturn, 1) := by decide +kernel
theorem dX6_numberOfAll_201 : decode cX6_numberOfAll 201 = .ok (.aload_n 0, 1) := by decide +kernel
theorem dX6_numberOfAll_202 : decode cX6_numberOfAll 202 = .ok (.getfield 12, 3) := by decide +kernel
theorem dX6_numberOfAll_205 : decode cX6_numberOfAll 205 = .ok (.getfield 298, 3) := by decide +kernel
theorem dX6_numberOfAll_208 : decode cX6_numberOfAll 208 = .ok (.ireturn, 1) := by decide +kernel
theorem dX6_numberOfAll_209 : decode cX6_numberOfAll 209 = .ok (.aload_n 0, 1) := by decide +kernel
theorem dX6_numberOfAll_210 : decode cX6_numberOfAll 210 = .ok (.getfield 12, 3) := by decide +kernel
theorem dX6_numberOfAll_213 : decode cX6_numberOfAll 213 = .ok (.getfield 301, 3) := by decide +kernel
theorem dX6_numberOfAll_216 : decode cX6_numberOfAll 216 = .ok (.ireturn, 1) := by decide +kernel
theorem dX6_numberOfAll_217 : decode cX6_numberOfAll 217 = .ok (.aload_n 0, 1) := by decide +kernel
theorem dX6_numberOfAll_218 : decode cX6_numberOfAll 218 = .ok (.getfield 12, 3) := by decide +kernel
theorem dX6_numberOfAll_221 : decode cX6_numberOfAll 221 = .ok (.getfield 304, 3) := by decide +kernel
theorem dX6_numberOfAll_224 : decode cX6_numberOfAll 224 = .ok (.ireturn, 1) := by decide +kernel
theorem dX6_numberOfAll_225 : decode cX6_numberOfAll 225 = .ok (.aload_n 0, 1) := by decide +kernel
theorem dX6_numberOfAll_226 : decode cX6_numberOfAll 226 = .ok (.getfield 12, 3) := by decide +kernel
theorem dX6_numberOfAll_229 : decode cX6_numberOfAll 229 = .ok (.iload_n 1, 1) := by decide +kernel
theorem dX6_numberOfAll_230 : decode cX6_numberOfAll 230 = .ok (.bipush 14, 2) := by decide +kernel
theorem dX6_numberOfAll_232 : decode cX6_numberOfAll 232 = .ok (.isub, 1) := by decide +kernel
theorem dX6_numberOfAll_233 : decode cX6_numberOfAll 233 = .ok (.invokevirtual 307, 3) := by decide +kernel
theorem dX6_numberOfAll_236 : decode cX6_numberOfAll 236 = .ok (.ireturn, 1) := by decide +kernel
theorem dX6_numberOfAll_237 : decode cX6_numberOfAll 237 = .ok (.aload_n 0, 1) := by decide +kernel
theorem dX6_numberOfAll_238 : decode cX6_numberOfAll 238 = .ok (.getfield 19, 3) := by decide +kernel
theorem dX6_numberOfAll_241 : decode cX6_numberOfAll 241 = .ok (.getfield 180, 3) := by decide +kernel
theorem dX6_numberOfAll_244 : decode cX6_numberOfAll 244 = .ok (.ireturn, 1) := by decide +kernel
