theorem dX6_init_0 : decode cX6_init 0 = .ok (.aload_n 0, 1) := by decide +kernel
theorem dX6_init_1 : decode cX6_init 1 = .ok (.invokespecial 3, 3) := by decide +kernel
theorem dX6_init_4 : decode cX6_init 4 = .ok (.aload_n 0, 1) := by decide +kernel
theorem dX6_init_5 : decode cX6_init 5 = .ok (.new 9, 3) := by decide +kernel
theorem dX6_init_8 : decode cX6_init 8 = .ok (.dup, 1) := by decide +kernel
theorem dX6_init_9 : decode cX6_init 9 = .ok (.invokespecial 11, 3) := by decide +kernel
theorem dX6_init_12 : decode cX6_init 12 = .ok (.putfield 12, 3) := by decide +kernel
theorem dX6_init_15 : decode cX6_init 15 = .ok (.aload_n 0, 1) := by decide +kernel
theorem dX6_init_16 : decode cX6_init 16 = .ok (.new 16, 3) := by decide +kernel
theorem dX6_init_19 : decode cX6_init 19 = .ok (.dup, 1) := by decide +kernel
theorem dX6_init_20 : decode cX6_init 20 = .ok (.invokespecial 18, 3) := by decide +kernel
theorem dX6_init_23 : decode cX6_init 23 = .ok (.putfield 19, 3) := by decide +kernel
theorem dX6_init_26 : decode cX6_init 26 = .ok (.aload_n 0, 1) := by decide +kernel
theorem dX6_init_27 : decode cX6_init 27 = .ok (.new 9, 3) := by decide +kernel
theorem dX6_init_30 : decode cX6_init 30 = .ok (.dup, 1) := by decide +kernel
theorem dX6_init_31 : decode cX6_init 31 = .ok (.invokespecial 11, 3) := by decide +kernel
theorem dX6_init_34 : decode cX6_init 34 = .ok (.putfield 23, 3) := by decide +kernel
theorem dX6_init_37 : decode cX6_init 37 = .ok (.aload_n 0, 1) := by decide +kernel
theorem dX6_init_38 : decode cX6_init 38 = .ok (.iconst 0, 1) := by decide +kernel
theorem dX6_init_39 : decode cX6_init 39 = .ok (.putfield 26, 3) := by decide +kernel
theorem dX6_init_42 : decode cX6_init 42 = .ok (.aload_n 0, 1) := by decide +kernel
theorem dX6_init_43 : decode cX6_init 43 = .ok (.new 30, 3) := by decide +kernel
theorem dX6_init_46 : decode cX6_init 46 = .ok (.dup, 1) := by decide +kernel
theorem dX6_init_47 : decode cX6_init 47 = .ok (.invokespecial 32, 3) := by decide +kernel
theorem dX6_init_50 : decode cX6_init 50 = .ok (.putfield 33, 3) := by decide +kernel
theorem dX6_init_53 : decode cX6_init 53 = .ok (.aload_n 0, 1) := by decide +kernel
theorem dX6_init_54 : decode cX6_init 54 = .ok (.new 37, 3) := by decide +kernel
theorem dX6_init_57 : decode cX6_init 57 = .ok (.dup, 1) := by decide +kernel
theorem dX6_init_58 : decode cX6_init 58 = .ok (.invokespecial 39, 3) := by decide +kernel
theorem dX6_init_61 : decode cX6_init 61 = .ok (.putfield 40, 3) := by decide +kernel
theorem dX6_init_64 : decode cX6_init 64 = .ok (.return_, 1) := by decide +kernel
theorem dX6_set_0 : decode cX6_set 0 = .ok (.iload_n 1, 1) := by decide +kernel
theorem dX6_set_1 : decode cX6_set 1 = .ok (.invokestatic 44, 3) := by decide +kernel
theorem dX6_set_4 : decode cX6_set 4 = .ok (.ifCond .ne 13, 3) := by decide +kernel
theorem dX6_set_7 : decode cX6_set 7 = .ok (.new 48, 3) := by decide +kernel
theorem dX6_set_10 : decode cX6_set 10 = .ok (.dup, 1) := by decide +kernel
theorem dX6_set_11 : decode cX6_set 11 = .ok (.ldc 50, 2) := by decide +kernel
theorem dX6_set_13 : decode cX6_set 13 = .ok (.invokespecial 52, 3) := by decide +kernel
theorem dX6_set_16 : decode cX6_set 16 = .ok (.athrow, 1) := by decide +kernel
theorem dX6_set_17 : decode cX6_set 17 = .ok (.aload_n 0, 1) := by decide +kernel
theorem dX6_set_18 : decode cX6_set 18 = .ok (.getfield 12, 3) := by decide +kernel
theorem dX6_set_21 : decode cX6_set 21 = .ok (.iload_n 1, 1) := by decide +kernel
theorem dX6_set_22 : decode cX6_set 22 = .ok (.invokevirtual 55, 3) := by decide +kernel
theorem dX6_set_25 : decode cX6_set 25 = .ok (.ifCond .eq 13, 3) := by decide +kernel
theorem dX6_set_28 : decode cX6_set 28 = .ok (.new 59, 3) := by decide +kernel
theorem dX6_set_31 : decode cX6_set 31 = .ok (.dup, 1) := by decide +kernel
theorem dX6_set_32 : decode cX6_set 32 = .ok (.ldc 61, 2) := by decide +kernel
theorem dX6_set_34 : decode cX6_set 34 = .ok (.invokespecial 63, 3) := by decide +kernel
theorem dX6_set_37 : decode cX6_set 37 = .ok (.athrow, 1) := by decide +kernel
theorem dX6_set_38 : decode cX6_set 38 = .ok (.aload_n 0, 1) := by decide +kernel
theorem dX6_set_39 : decode cX6_set 39 = .ok (.getfield 19, 3) := by decide +kernel
theorem dX6_set_42 : decode cX6_set 42 = .ok (.aload_n 0, 1) := by decide +kernel
theorem dX6_set_43 : decode cX6_set 43 = .ok (.getfield 12, 3) := by decide +kernel
theorem dX6_set_46 : decode cX6_set 46 = .ok (.invokevirtual 64, 3) := by decide +kernel
theorem dX6_set_49 : decode cX6_set 49 = .ok (.aload_n 0, 1) := by decide +kernel
theorem dX6_set_50 : decode cX6_set 50 = .ok (.getfield 12, 3) := by decide +kernel
theorem dX6_set_53 : decode cX6_set 53 = .ok (.iload_n 1, 1) := by decide +kernel
theorem dX6_set_54 : decode cX6_set 54 = .ok (.invokevirtual 68, 3) := by decide +kernel
theorem dX6_set_57 : decode cX6_set 57 = .ok (.ireturn, 1) := by decide +kernel
theorem dX6_idle_0 : decode cX6_idle 0 = .ok (.iload_n 1, 1) := by decide +kernel
theorem dX6_idle_1 : decode cX6_idle 1 = .ok (.iconst 1, 1) := by decide +kernel
theorem dX6_idle_2 : decode cX6_idle 2 = .ok (.if_icmp .lt 9, 3) := by decide +kernel
theorem dX6_idle_5 : decode cX6_idle 5 = .ok (.iload_n 1, 1) := by decide +kernel
theorem dX6_idle_6 : decode cX6_idle 6 = .ok (.bipush 99, 2) := by decide +kernel
theorem dX6_idle_8 : decode cX6_idle 8 = .ok (.if_icmp .le 13, 3) := by decide +kernel
theorem dX6_idle_11 : decode cX6_idle 11 = .ok (.new 71, 3) := by decide +kernel
theorem dX6_idle_14 : decode cX6_idle 14 = .ok (.dup, 1) := by decide +kernel
theorem dX6_idle_15 : decode cX6_idle 15 = .ok (.ldc 73, 2) := by decide +kernel
theorem dX6_idle_17 : decode cX6_idle 17 = .ok (.invokespecial 75, 3) := by decide +kernel
theorem dX6_idle_20 : decode cX6_idle 20 = .ok (.athrow, 1) := by decide +kernel
theorem dX6_idle_21 : decode cX6_idle 21 = .ok (.aload_n 0, 1) := by decide +kernel
theorem dX6_idle_22 : decode cX6_idle 22 = .ok (.getfield 19, 3) := by decide +kernel
theorem dX6_idle_25 : decode cX6_idle 25 = .ok (.aload_n 0, 1) := by decide +kernel
theorem dX6_idle_26 : decode cX6_idle 26 = .ok (.getfield 12, 3) := by decide +kernel
theorem dX6_idle_29 : decode cX6_idle 29 = .ok (.invokevirtual 64, 3) := by decide +kernel
theorem dX6_idle_32 : decode cX6_idle 32 = .ok (.aload_n 0, 1) := by decide +kernel
theorem dX6_idle_33 : decode cX6_idle 33 = .ok (.getfield 12, 3) := by decide +kernel
theorem dX6_idle_36 : decode cX6_idle 36 = .ok (.iload_n 1, 1) := by decide +kernel
theorem dX6_idle_37 : decode cX6_idle 37 = .ok (.invokevirtual 76, 3) := by decide +kernel
theorem dX6_idle_40 : decode cX6_idle 40 = .ok (.ireturn, 1) := by decide +kernel
theorem dX6_fix_0 : decode cX6_fix 0 = .ok (.aload_n 0, 1) := by decide +kernel
theorem dX6_fix_1 : decode cX6_fix 1 = .ok (.getfield 12, 3) := by decide +kernel
theorem dX6_fix_4 : decode cX6_fix 4 = .ok (.getfield 79, 3) := by decide +kernel
theorem dX6_fix_7 : decode cX6_fix 7 = .ok (.iload_n 1, 1) := by decide +kernel
theorem dX6_fix_8 : decode cX6_fix 8 = .ok (.invokevirtual 83, 3) := by decide +kernel
theorem dX6_fix_11 : decode cX6_fix 11 = .ok (.ifCond .ne 13, 3) := by decide +kernel
theorem dX6_fix_14 : decode cX6_fix 14 = .ok (.new 48, 3) := by decide +kernel
theorem dX6_fix_17 : decode cX6_fix 17 = .ok (.dup, 1) := by decide +kernel
theorem dX6_fix_18 : decode cX6_fix 18 = .ok (.ldc 88, 2) := by decide +kernel
theorem dX6_fix_20 : decode cX6_fix 20 = .ok (.invokespecial 52, 3) := by decide +kernel
theorem dX6_fix_23 : decode cX6_fix 23 = .ok (.athrow, 1) := by decide +kernel
theorem dX6_fix_24 : decode cX6_fix 24 = .ok (.aload_n 0, 1) := by decide +kernel
theorem dX6_fix_25 : decode cX6_fix 25 = .ok (.getfield 12, 3) := by decide +kernel
theorem dX6_fix_28 : decode cX6_fix 28 = .ok (.iload_n 1, 1) := by decide +kernel
theorem dX6_fix_29 : decode cX6_fix 29 = .ok (.invokevirtual 90, 3) := by decide +kernel
theorem dX6_fix_32 : decode cX6_fix 32 = .ok (.ifCond .eq 13, 3) := by decide +kernel
theorem dX6_fix_35 : decode cX6_fix 35 = .ok (.new 59, 3) := by decide +kernel
theorem dX6_fix_38 : decode cX6_fix 38 = .ok (.dup, 1) := by decide +kernel
theorem dX6_fix_39 : decode cX6_fix 39 = .ok (.ldc 93, 2) := by decide +kernel
theorem dX6_fix_41 : decode cX6_fix 41 = .ok (.invokespecial 63, 3) := by decide +kernel
theorem dX6_fix_44 : decode cX6_fix 44 = .ok (.athrow, 1) := by decide +kernel
theorem dX6_fix_45 : decode cX6_fix 45 = .ok (.aload_n 0, 1) := by decide +kernel
theorem dX6_fix_46 : decode cX6_fix 46 = .ok (.getfield 19, 3) := by decide +kernel
theorem dX6_fix_49 : decode cX6_fix 49 = .ok (.aload_n 0, 1) := by decide +kernel
theorem dX6_fix_50 : decode cX6_fix 50 = .ok (.getfield 12, 3) := by decide +kernel
theorem dX6_fix_53 : decode cX6_fix 53 = .ok (.invokevirtual 64, 3) := by decide +kernel
theorem dX6_fix_56 : decode cX6_fix 56 = .ok (.aload_n 0, 1) := by decide +kernel
theorem dX6_fix_57 : decode cX6_fix 57 = .ok (.getfield 12, 3) := by decide +kernel
theorem dX6_fix_60 : decode cX6_fix 60 = .ok (.iload_n 1, 1) := by decide +kernel
theorem dX6_fix_61 : decode cX6_fix 61 = .ok (.invokevirtual 95, 3) := by decide +kernel
theorem dX6_fix_64 : decode cX6_fix 64 = .ok (.aload_n 0, 1) := by decide +kernel
theorem dX6_fix_65 : decode cX6_fix 65 = .ok (.getfield 12, 3) := by decide +kernel
theorem dX6_fix_68 : decode cX6_fix 68 = .ok (.getfield 79, 3) := by decide +kernel
theorem dX6_fix_71 : decode cX6_fix 71 = .ok (.invokevirtual 99, 3) := by decide +kernel
theorem dX6_fix_74 : decode cX6_fix 74 = .ok (.ireturn, 1) := by decide +kernel
theorem dX6_back_0 : decode cX6_back 0 = .ok (.aload_n 0, 1) := by decide +kernel
theorem dX6_back_1 : decode cX6_back 1 = .ok (.getfield 12, 3) := by decide +kernel
theorem dX6_back_4 : decode cX6_back 4 = .ok (.invokevirtual 103, 3) := by decide +kernel
theorem dX6_back_7 : decode cX6_back 7 = .ok (.ifCond .eq 13, 3) := by decide +kernel
theorem dX6_back_10 : decode cX6_back 10 = .ok (.new 59, 3) := by decide +kernel
theorem dX6_back_13 : decode cX6_back 13 = .ok (.dup, 1) := by decide +kernel
theorem dX6_back_14 : decode cX6_back 14 = .ok (.ldc 106, 2) := by decide +kernel
theorem dX6_back_16 : decode cX6_back 16 = .ok (.invokespecial 63, 3) := by decide +kernel
theorem dX6_back_19 : decode cX6_back 19 = .ok (.athrow, 1) := by decide +kernel
theorem dX6_back_20 : decode cX6_back 20 = .ok (.aload_n 0, 1) := by decide +kernel
theorem dX6_back_21 : decode cX6_back 21 = .ok (.getfield 19, 3) := by decide +kernel
theorem dX6_back_24 : decode cX6_back 24 = .ok (.aload_n 0, 1) := by decide +kernel
theorem dX6_back_25 : decode cX6_back 25 = .ok (.getfield 12, 3) := by decide +kernel
theorem dX6_back_28 : decode cX6_back 28 = .ok (.invokevirtual 64, 3) := by decide +kernel
theorem dX6_back_31 : decode cX6_back 31 = .ok (.aload_n 0, 1) := by decide +kernel
theorem dX6_back_32 : decode cX6_back 32 = .ok (.getfield 12, 3) := by decide +kernel
theorem dX6_back_35 : decode cX6_back 35 = .ok (.invokevirtual 108, 3) := by decide +kernel
theorem dX6_back_38 : decode cX6_back 38 = .ok (.aload_n 0, 1) := by decide +kernel
theorem dX6_back_39 : decode cX6_back 39 = .ok (.getfield 12, 3) := by decide +kernel
theorem dX6_back_42 : decode cX6_back 42 = .ok (.getfield 111, 3) := by decide +kernel
theorem dX6_back_45 : decode cX6_back 45 = .ok (.invokevirtual 114, 3) := by decide +kernel
theorem dX6_back_48 : decode cX6_back 48 = .ok (.ireturn, 1) := by decide +kernel
theorem dX6_swap_0 : decode cX6_swap 0 = .ok (.iload_n 1, 1) := by decide +kernel
theorem dX6_swap_1 : decode cX6_swap 1 = .ok (.invokestatic 44, 3) := by decide +kernel
theorem dX6_swap_4 : decode cX6_swap 4 = .ok (.ifCond .eq 10, 3) := by decide +kernel
theorem dX6_swap_7 : decode cX6_swap 7 = .ok (.iload_n 2, 1) := by decide +kernel
theorem dX6_swap_8 : decode cX6_swap 8 = .ok (.invokestatic 44, 3) := by decide +kernel
theorem dX6_swap_11 : decode cX6_swap 11 = .ok (.ifCond .ne 13, 3) := by decide +kernel
theorem dX6_swap_14 : decode cX6_swap 14 = .ok (.new 48, 3) := by decide +kernel
theorem dX6_swap_17 : decode cX6_swap 17 = .ok (.dup, 1) := by decide +kernel
theorem dX6_swap_18 : decode cX6_swap 18 = .ok (.ldc 117, 2) := by decide +kernel
theorem dX6_swap_20 : decode cX6_swap 20 = .ok (.invokespecial 52, 3) := by decide +kernel
theorem dX6_swap_23 : decode cX6_swap 23 = .ok (.athrow, 1) := by decide +kernel
theorem dX6_swap_24 : decode cX6_swap 24 = .ok (.aload_n 0, 1) := by decide +kernel
theorem dX6_swap_25 : decode cX6_swap 25 = .ok (.getfield 19, 3) := by decide +kernel
theorem dX6_swap_28 : decode cX6_swap 28 = .ok (.aload_n 0, 1) := by decide +kernel
theorem dX6_swap_29 : decode cX6_swap 29 = .ok (.getfield 12, 3) := by decide +kernel
theorem dX6_swap_32 : decode cX6_swap 32 = .ok (.invokevirtual 64, 3) := by decide +kernel
theorem dX6_swap_35 : decode cX6_swap 35 = .ok (.aload_n 0, 1) := by decide +kernel
theorem dX6_swap_36 : decode cX6_swap 36 = .ok (.getfield 12, 3) := by decide +kernel
theorem dX6_swap_39 : decode cX6_swap 39 = .ok (.iload_n 1, 1) := by decide +kernel
theorem dX6_swap_40 : decode cX6_swap 40 = .ok (.iload_n 2, 1) := by decide +kernel
theorem dX6_swap_41 : decode cX6_swap 41 = .ok (.invokevirtual 119, 3) := by decide +kernel
theorem dX6_swap_44 : decode cX6_swap 44 = .ok (.aload_n 0, 1) := by decide +kernel
theorem dX6_swap_45 : decode cX6_swap 45 = .ok (.getfield 12, 3) := by decide +kernel
theorem dX6_swap_48 : decode cX6_swap 48 = .ok (.getfield 111, 3) := by decide +kernel
theorem dX6_swap_51 : decode cX6_swap 51 = .ok (.invokevirtual 114, 3) := by decide +kernel
theorem dX6_swap_54 : decode cX6_swap 54 = .ok (.ireturn, 1) := by decide +kernel
theorem dX6_change_0 : decode cX6_change 0 = .ok (.iload_n 1, 1) := by decide +kernel
theorem dX6_change_1 : decode cX6_change 1 = .ok (.ifCond .lt 19, 3) := by decide +kernel
theorem dX6_change_4 : decode cX6_change 4 = .ok (.iload_n 1, 1) := by decide +kernel
theorem dX6_change_5 : decode cX6_change 5 = .ok (.getstatic 123, 3) := by decide +kernel
theorem dX6_change_8 : decode cX6_change 8 = .ok (.arraylength, 1) := by decide +kernel
theorem dX6_change_9 : decode cX6_change 9 = .ok (.if_icmp .ge 11, 3) := by decide +kernel
theorem dX6_change_12 : decode cX6_change 12 = .ok (.iload_n 1, 1) := by decide +kernel
theorem dX6_change_13 : decode cX6_change 13 = .ok (.getstatic 127, 3) := by decide +kernel
theorem dX6_change_16 : decode cX6_change 16 = .ok (.arraylength, 1) := by decide +kernel
theorem dX6_change_17 : decode cX6_change 17 = .ok (.if_icmp .lt 13, 3) := by decide +kernel
theorem dX6_change_20 : decode cX6_change 20 = .ok (.new 48, 3) := by decide +kernel
theorem dX6_change_23 : decode cX6_change 23 = .ok (.dup, 1) := by decide +kernel
theorem dX6_change_24 : decode cX6_change 24 = .ok (.ldc 130, 2) := by decide +kernel
theorem dX6_change_26 : decode cX6_change 26 = .ok (.invokespecial 52, 3) := by decide +kernel
theorem dX6_change_29 : decode cX6_change 29 = .ok (.athrow, 1) := by decide +kernel
theorem dX6_change_30 : decode cX6_change 30 = .ok (.iload_n 2, 1) := by decide +kernel
theorem dX6_change_31 : decode cX6_change 31 = .ok (.getstatic 123, 3) := by decide +kernel
theorem dX6_change_34 : decode cX6_change 34 = .ok (.iload_n 1, 1) := by decide +kernel
theorem dX6_change_35 : decode cX6_change 35 = .ok (.iaload, 1) := by decide +kernel
theorem dX6_change_36 : decode cX6_change 36 = .ok (.if_icmp .lt 12, 3) := by decide +kernel
theorem dX6_change_39 : decode cX6_change 39 = .ok (.iload_n 2, 1) := by decide +kernel
theorem dX6_change_40 : decode cX6_change 40 = .ok (.getstatic 127, 3) := by decide +kernel
theorem dX6_change_43 : decode cX6_change 43 = .ok (.iload_n 1, 1) := by decide +kernel
theorem dX6_change_44 : decode cX6_change 44 = .ok (.iaload, 1) := by decide +kernel
theorem dX6_change_45 : decode cX6_change 45 = .ok (.if_icmp .le 13, 3) := by decide +kernel
theorem dX6_change_48 : decode cX6_change 48 = .ok (.new 71, 3) := by decide +kernel
theorem dX6_change_51 : decode cX6_change 51 = .ok (.dup, 1) := by decide +kernel
theorem dX6_change_52 : decode cX6_change 52 = .ok (.ldc 132, 2) := by decide +kernel
theorem dX6_change_54 : decode cX6_change 54 = .ok (.invokespecial 75, 3) := by decide +kernel
theorem dX6_change_57 : decode cX6_change 57 = .ok (.athrow, 1) := by decide +kernel
theorem dX6_change_58 : decode cX6_change 58 = .ok (.aload_n 0, 1) := by decide +kernel
theorem dX6_change_59 : decode cX6_change 59 = .ok (.getfield 19, 3) := by decide +kernel
theorem dX6_change_62 : decode cX6_change 62 = .ok (.aload_n 0, 1) := by decide +kernel
theorem dX6_change_63 : decode cX6_change 63 = .ok (.getfield 12, 3) := by decide +kernel
theorem dX6_change_66 : decode cX6_change 66 = .ok (.invokevirtual 64, 3) := by decide +kernel
theorem dX6_change_69 : decode cX6_change 69 = .ok (.aload_n 0, 1) := by decide +kernel
theorem dX6_change_70 : decode cX6_change 70 = .ok (.getfield 12, 3) := by decide +kernel
theorem dX6_change_73 : decode cX6_change 73 = .ok (.iload_n 1, 1) := by decide +kernel
theorem dX6_change_74 : decode cX6_change 74 = .ok (.iload_n 2, 1) := by decide +kernel
theorem dX6_change_75 : decode cX6_change 75 = .ok (.invokevirtual 134, 3) := by decide +kernel
theorem dX6_change_78 : decode cX6_change 78 = .ok (.ireturn, 1) := by decide +kernel
theorem dX6_append_0 : decode cX6_append 0 = .ok (.iload_n 1, 1) := by decide +kernel
theorem dX6_append_1 : decode cX6_append 1 = .ok (.bipush 33, 2) := by decide +kernel
theorem dX6_append_3 : decode cX6_append 3 = .ok (.if_icmp .lt 9, 3) := by decide +kernel
theorem dX6_append_6 : decode cX6_append 6 = .ok (.iload_n 1, 1) := by decide +kernel
theorem dX6_append_7 : decode cX6_append 7 = .ok (.bipush 126, 2) := by decide +kernel
theorem dX6_append_9 : decode cX6_append 9 = .ok (.if_icmp .le 13, 3) := by decide +kernel
theorem dX6_append_12 : decode cX6_append 12 = .ok (.new 71, 3) := by decide +kernel
theorem dX6_append_15 : decode cX6_append 15 = .ok (.dup, 1) := by decide +kernel
theorem dX6_append_16 : decode cX6_append 16 = .ok (.ldc 138, 2) := by decide +kernel
theorem dX6_append_18 : decode cX6_append 18 = .ok (.invokespecial 75, 3) := by decide +kernel
theorem dX6_append_21 : decode cX6_append 21 = .ok (.athrow, 1) := by decide +kernel
theorem dX6_append_22 : decode cX6_append 22 = .ok (.aload_n 0, 1) := by decide +kernel
theorem dX6_append_23 : decode cX6_append 23 = .ok (.getfield 33, 3) := by decide +kernel
theorem dX6_append_26 : decode cX6_append 26 = .ok (.getfield 140, 3) := by decide +kernel
theorem dX6_append_29 : decode cX6_append 29 = .ok (.bipush 60, 2) := by decide +kernel
theorem dX6_append_31 : decode cX6_append 31 = .ok (.if_icmp .lt 13, 3) := by decide +kernel
theorem dX6_append_34 : decode cX6_append 34 = .ok (.new 59, 3) := by decide +kernel
theorem dX6_append_37 : decode cX6_append 37 = .ok (.dup, 1) := by decide +kernel
theorem dX6_append_38 : decode cX6_append 38 = .ok (.ldc 144, 2) := by decide +kernel
theorem dX6_append_40 : decode cX6_append 40 = .ok (.invokespecial 63, 3) := by decide +kernel
theorem dX6_append_43 : decode cX6_append 43 = .ok (.athrow, 1) := by decide +kernel
theorem dX6_append_44 : decode cX6_append 44 = .ok (.aload_n 0, 1) := by decide +kernel
theorem dX6_append_45 : decode cX6_append 45 = .ok (.getfield 33, 3) := by decide +kernel
theorem dX6_append_48 : decode cX6_append 48 = .ok (.iload_n 1, 1) := by decide +kernel
theorem dX6_append_49 : decode cX6_append 49 = .ok (.invokevirtual 146, 3) := by decide +kernel
theorem dX6_append_52 : decode cX6_append 52 = .ok (.aload_n 0, 1) := by decide +kernel
theorem dX6_append_53 : decode cX6_append 53 = .ok (.getfield 33, 3) := by decide +kernel
theorem dX6_append_56 : decode cX6_append 56 = .ok (.getfield 140, 3) := by decide +kernel
theorem dX6_append_59 : decode cX6_append 59 = .ok (.ireturn, 1) := by decide +kernel
theorem dX6_clearBuffer_0 : decode cX6_clearBuffer 0 = .ok (.aload_n 0, 1) := by decide +kernel
theorem dX6_clearBuffer_1 : decode cX6_clearBuffer 1 = .ok (.getfield 33, 3) := by decide +kernel
theorem dX6_clearBuffer_4 : decode cX6_clearBuffer 4 = .ok (.getfield 140, 3) := by decide +kernel
theorem dX6_clearBuffer_7 : decode cX6_clearBuffer 7 = .ok (.istore_n 1, 1) := by decide +kernel
theorem dX6_clearBuffer_8 : decode cX6_clearBuffer 8 = .ok (.aload_n 0, 1) := by decide +kernel
theorem dX6_clearBuffer_9 : decode cX6_clearBuffer 9 = .ok (.getfield 33, 3) := by decide +kernel
theorem dX6_clearBuffer_12 : decode cX6_clearBuffer 12 = .ok (.invokevirtual 149, 3) := by decide +kernel
theorem dX6_clearBuffer_15 : decode cX6_clearBuffer 15 = .ok (.iload_n 1, 1) := by decide +kernel
theorem dX6_clearBuffer_16 : decode cX6_clearBuffer 16 = .ok (.ireturn, 1) := by decide +kernel
theorem dX6_firstError_0 : decode cX6_firstError 0 = .ok (.aload_n 0, 1) := by decide +kernel
theorem dX6_firstError_1 : decode cX6_firstError 1 = .ok (.getfield 33, 3) := by decide +kernel
theorem dX6_firstError_4 : decode cX6_firstError 4 = .ok (.invokevirtual 152, 3) := by decide +kernel
theorem dX6_firstError_7 : decode cX6_firstError 7 = .ok (.ireturn, 1) := by decide +kernel
theorem dX6_work_0 : decode cX6_work 0 = .ok (.aload_n 0, 1) := by decide +kernel
theorem dX6_work_1 : decode cX6_work 1 = .ok (.getfield 33, 3) := by decide +kernel
theorem dX6_work_4 : decode cX6_work 4 = .ok (.invokevirtual 155, 3) := by decide +kernel
theorem dX6_work_7 : decode cX6_work 7 = .ok (.ifCond .ne 13, 3) := by decide +kernel
theorem dX6_work_10 : decode cX6_work 10 = .ok (.new 71, 3) := by decide +kernel
theorem dX6_work_13 : decode cX6_work 13 = .ok (.dup, 1) := by decide +kernel
theorem dX6_work_14 : decode cX6_work 14 = .ok (.ldc 159, 2) := by decide +kernel
theorem dX6_work_16 : decode cX6_work 16 = .ok (.invokespecial 75, 3) := by decide +kernel
theorem dX6_work_19 : decode cX6_work 19 = .ok (.athrow, 1) := by decide +kernel
theorem dX6_work_20 : decode cX6_work 20 = .ok (.aload_n 0, 1) := by decide +kernel
theorem dX6_work_21 : decode cX6_work 21 = .ok (.getfield 19, 3) := by decide +kernel
theorem dX6_work_24 : decode cX6_work 24 = .ok (.aload_n 0, 1) := by decide +kernel
theorem dX6_work_25 : decode cX6_work 25 = .ok (.getfield 12, 3) := by decide +kernel
theorem dX6_work_28 : decode cX6_work 28 = .ok (.invokevirtual 64, 3) := by decide +kernel
theorem dX6_work_31 : decode cX6_work 31 = .ok (.iconst 0, 1) := by decide +kernel
theorem dX6_work_32 : decode cX6_work 32 = .ok (.istore_n 1, 1) := by decide +kernel
theorem dX6_work_33 : decode cX6_work 33 = .ok (.iconst 0, 1) := by decide +kernel
theorem dX6_work_34 : decode cX6_work 34 = .ok (.istore_n 2, 1) := by decide +kernel
theorem dX6_work_35 : decode cX6_work 35 = .ok (.iconst 0, 1) := by decide +kernel
theorem dX6_work_36 : decode cX6_work 36 = .ok (.istore_n 3, 1) := by decide +kernel
theorem dX6_work_37 : decode cX6_work 37 = .ok (.iconst 0, 1) := by decide +kernel
theorem dX6_work_38 : decode cX6_work 38 = .ok (.istore 4, 2) := by decide +kernel
theorem dX6_work_40 : decode cX6_work 40 = .ok (.iload 4, 2) := by decide +kernel
theorem dX6_work_42 : decode cX6_work 42 = .ok (.aload_n 0, 1) := by decide +kernel
theorem dX6_work_43 : decode cX6_work 43 = .ok (.getfield 33, 3) := by decide +kernel
theorem dX6_work_46 : decode cX6_work 46 = .ok (.getfield 140, 3) := by decide +kernel
theorem dX6_work_49 : decode cX6_work 49 = .ok (.if_icmp .gt 50, 3) := by decide +kernel
theorem dX6_work_52 : decode cX6_work 52 = .ok (.iload_n 3, 1) := by decide +kernel
theorem dX6_work_53 : decode cX6_work 53 = .ok (.ifCond .ne 46, 3) := by decide +kernel
theorem dX6_work_56 : decode cX6_work 56 = .ok (.aload_n 0, 1) := by decide +kernel
theorem dX6_work_57 : decode cX6_work 57 = .ok (.getfield 33, 3) := by decide +kernel
theorem dX6_work_60 : decode cX6_work 60 = .ok (.iload 4, 2) := by decide +kernel
theorem dX6_work_62 : decode cX6_work 62 = .ok (.invokevirtual 161, 3) := by decide +kernel
theorem dX6_work_65 : decode cX6_work 65 = .ok (.ifCond .eq 28, 3) := by decide +kernel
theorem dX6_work_68 : decode cX6_work 68 = .ok (.aload_n 0, 1) := by decide +kernel
theorem dX6_work_69 : decode cX6_work 69 = .ok (.iload_n 2, 1) := by decide +kernel
theorem dX6_work_70 : decode cX6_work 70 = .ok (.iload 4, 2) := by decide +kernel
theorem dX6_work_72 : decode cX6_work 72 = .ok (.invokevirtual 164, 3) := by decide +kernel
theorem dX6_work_75 : decode cX6_work 75 = .ok (.istore_n 3, 1) := by decide +kernel
theorem dX6_work_76 : decode cX6_work 76 = .ok (.iload_n 1, 1) := by decide +kernel
theorem dX6_work_77 : decode cX6_work 77 = .ok (.iload_n 3, 1) := by decide +kernel
theorem dX6_work_78 : decode cX6_work 78 = .ok (.ifCond .ne 7, 3) := by decide +kernel
theorem dX6_work_81 : decode cX6_work 81 = .ok (.iconst 1, 1) := by decide +kernel
theorem dX6_work_82 : decode cX6_work 82 = .ok (.goto 4, 3) := by decide +kernel
theorem dX6_work_85 : decode cX6_work 85 = .ok (.iconst 0, 1) := by decide +kernel
theorem dX6_work_86 : decode cX6_work 86 = .ok (.iadd, 1) := by decide +kernel
theorem dX6_work_87 : decode cX6_work 87 = .ok (.istore_n 1, 1) := by decide +kernel
theorem dX6_work_88 : decode cX6_work 88 = .ok (.iload 4, 2) := by decide +kernel
theorem dX6_work_90 : decode cX6_work 90 = .ok (.iconst 1, 1) := by decide +kernel
theorem dX6_work_91 : decode cX6_work 91 = .ok (.iadd, 1) := by decide +kernel
theorem dX6_work_92 : decode cX6_work 92 = .ok (.istore_n 2, 1) := by decide +kernel
theorem dX6_work_93 : decode cX6_work 93 = .ok (.iinc 4 1, 3) := by decide +kernel
theorem dX6_work_96 : decode cX6_work 96 = .ok (.goto (-56), 3) := by decide +kernel
theorem dX6_work_99 : decode cX6_work 99 = .ok (.aload_n 0, 1) := by decide +kernel
theorem dX6_work_100 : decode cX6_work 100 = .ok (.getfield 12, 3) := by decide +kernel
theorem dX6_work_103 : decode cX6_work 103 = .ok (.iload_n 3, 1) := by decide +kernel
theorem dX6_work_104 : decode cX6_work 104 = .ok (.ifCond .ne 7, 3) := by decide +kernel
theorem dX6_work_107 : decode cX6_work 107 = .ok (.iconst (-1), 1) := by decide +kernel
theorem dX6_work_108 : decode cX6_work 108 = .ok (.goto 4, 3) := by decide +kernel
theorem dX6_work_111 : decode cX6_work 111 = .ok (.iload_n 1, 1) := by decide +kernel
theorem dX6_work_112 : decode cX6_work 112 = .ok (.putfield 167, 3) := by decide +kernel
theorem dX6_work_115 : decode cX6_work 115 = .ok (.aload_n 0, 1) := by decide +kernel
theorem dX6_work_116 : decode cX6_work 116 = .ok (.getfield 12, 3) := by decide +kernel
theorem dX6_work_119 : decode cX6_work 119 = .ok (.iload_n 3, 1) := by decide +kernel
theorem dX6_work_120 : decode cX6_work 120 = .ok (.ifCond .ne 7, 3) := by decide +kernel
theorem dX6_work_123 : decode cX6_work 123 = .ok (.iconst (-1), 1) := by decide +kernel
theorem dX6_work_124 : decode cX6_work 124 = .ok (.goto 4, 3) := by decide +kernel
theorem dX6_work_127 : decode cX6_work 127 = .ok (.iload_n 3, 1) := by decide +kernel
theorem dX6_work_128 : decode cX6_work 128 = .ok (.putfield 170, 3) := by decide +kernel
theorem dX6_work_131 : decode cX6_work 131 = .ok (.aload_n 0, 1) := by decide +kernel
theorem dX6_work_132 : decode cX6_work 132 = .ok (.getfield 33, 3) := by decide +kernel
theorem dX6_work_135 : decode cX6_work 135 = .ok (.invokevirtual 149, 3) := by decide +kernel
theorem dX6_work_138 : decode cX6_work 138 = .ok (.iload_n 1, 1) := by decide +kernel
theorem dX6_work_139 : decode cX6_work 139 = .ok (.ireturn, 1) := by decide +kernel
theorem dX6_stopped_0 : decode cX6_stopped 0 = .ok (.iload_n 1, 1) := by decide +kernel
theorem dX6_stopped_1 : decode cX6_stopped 1 = .ok (.ifCond .lt 8, 3) := by decide +kernel
theorem dX6_stopped_4 : decode cX6_stopped 4 = .ok (.iload_n 1, 1) := by decide +kernel
theorem dX6_stopped_5 : decode cX6_stopped 5 = .ok (.iconst 1, 1) := by decide +kernel
theorem dX6_stopped_6 : decode cX6_stopped 6 = .ok (.if_icmp .le 13, 3) := by decide +kernel
theorem dX6_stopped_9 : decode cX6_stopped 9 = .ok (.new 71, 3) := by decide +kernel
theorem dX6_stopped_12 : decode cX6_stopped 12 = .ok (.dup, 1) := by decide +kernel
theorem dX6_stopped_13 : decode cX6_stopped 13 = .ok (.ldc 173, 2) := by decide +kernel
theorem dX6_stopped_15 : decode cX6_stopped 15 = .ok (.invokespecial 75, 3) := by decide +kernel
theorem dX6_stopped_18 : decode cX6_stopped 18 = .ok (.athrow, 1) := by decide +kernel
theorem dX6_stopped_19 : decode cX6_stopped 19 = .ok (.iload_n 1, 1) := by decide +kernel
theorem dX6_stopped_20 : decode cX6_stopped 20 = .ok (.ifCond .ne 13, 3) := by decide +kernel
theorem dX6_stopped_23 : decode cX6_stopped 23 = .ok (.aload_n 0, 1) := by decide +kernel
theorem dX6_stopped_24 : decode cX6_stopped 24 = .ok (.getfield 12, 3) := by decide +kernel
theorem dX6_stopped_27 : decode cX6_stopped 27 = .ok (.getfield 167, 3) := by decide +kernel
theorem dX6_stopped_30 : decode cX6_stopped 30 = .ok (.goto 10, 3) := by decide +kernel
theorem dX6_stopped_33 : decode cX6_stopped 33 = .ok (.aload_n 0, 1) := by decide +kernel
theorem dX6_stopped_34 : decode cX6_stopped 34 = .ok (.getfield 12, 3) := by decide +kernel
theorem dX6_stopped_37 : decode cX6_stopped 37 = .ok (.getfield 170, 3) := by decide +kernel
theorem dX6_stopped_40 : decode cX6_stopped 40 = .ok (.ireturn, 1) := by decide +kernel
theorem dX6_told_0 : decode cX6_told 0 = .ok (.iload_n 1, 1) := by decide +kernel
theorem dX6_told_1 : decode cX6_told 1 = .ok (.ifCond .ge 13, 3) := by decide +kernel
theorem dX6_told_4 : decode cX6_told 4 = .ok (.new 71, 3) := by decide +kernel
theorem dX6_told_7 : decode cX6_told 7 = .ok (.dup, 1) := by decide +kernel
theorem dX6_told_8 : decode cX6_told 8 = .ok (.ldc 175, 2) := by decide +kernel
theorem dX6_told_10 : decode cX6_told 10 = .ok (.invokespecial 75, 3) := by decide +kernel
theorem dX6_told_13 : decode cX6_told 13 = .ok (.athrow, 1) := by decide +kernel
theorem dX6_told_14 : decode cX6_told 14 = .ok (.aload_n 0, 1) := by decide +kernel
theorem dX6_told_15 : decode cX6_told 15 = .ok (.getfield 12, 3) := by decide +kernel
theorem dX6_told_18 : decode cX6_told 18 = .ok (.getfield 79, 3) := by decide +kernel
theorem dX6_told_21 : decode cX6_told 21 = .ok (.iload_n 1, 1) := by decide +kernel
theorem dX6_told_22 : decode cX6_told 22 = .ok (.invokevirtual 177, 3) := by decide +kernel
theorem dX6_told_25 : decode cX6_told 25 = .ok (.ireturn, 1) := by decide +kernel
theorem dX6_undo_0 : decode cX6_undo 0 = .ok (.aload_n 0, 1) := by decide +kernel
theorem dX6_undo_1 : decode cX6_undo 1 = .ok (.getfield 19, 3) := by decide +kernel
theorem dX6_undo_4 : decode cX6_undo 4 = .ok (.getfield 180, 3) := by decide +kernel
theorem dX6_undo_7 : decode cX6_undo 7 = .ok (.ifCond .gt 13, 3) := by decide +kernel
theorem dX6_undo_10 : decode cX6_undo 10 = .ok (.new 59, 3) := by decide +kernel
theorem dX6_undo_13 : decode cX6_undo 13 = .ok (.dup, 1) := by decide +kernel
theorem dX6_undo_14 : decode cX6_undo 14 = .ok (.ldc 183, 2) := by decide +kernel
theorem dX6_undo_16 : decode cX6_undo 16 = .ok (.invokespecial 63, 3) := by decide +kernel
theorem dX6_undo_19 : decode cX6_undo 19 = .ok (.athrow, 1) := by decide +kernel
theorem dX6_undo_20 : decode cX6_undo 20 = .ok (.aload_n 0, 1) := by decide +kernel
theorem dX6_undo_21 : decode cX6_undo 21 = .ok (.getfield 19, 3) := by decide +kernel
theorem dX6_undo_24 : decode cX6_undo 24 = .ok (.aload_n 0, 1) := by decide +kernel
theorem dX6_undo_25 : decode cX6_undo 25 = .ok (.getfield 12, 3) := by decide +kernel
theorem dX6_undo_28 : decode cX6_undo 28 = .ok (.invokevirtual 185, 3) := by decide +kernel
theorem dX6_undo_31 : decode cX6_undo 31 = .ok (.aload_n 0, 1) := by decide +kernel
theorem dX6_undo_32 : decode cX6_undo 32 = .ok (.getfield 19, 3) := by decide +kernel
theorem dX6_undo_35 : decode cX6_undo 35 = .ok (.getfield 180, 3) := by decide +kernel
theorem dX6_undo_38 : decode cX6_undo 38 = .ok (.ireturn, 1) := by decide +kernel
theorem dX6_keep_0 : decode cX6_keep 0 = .ok (.aload_n 0, 1) := by decide +kernel
theorem dX6_keep_1 : decode cX6_keep 1 = .ok (.getfield 23, 3) := by decide +kernel
theorem dX6_keep_4 : decode cX6_keep 4 = .ok (.aload_n 0, 1) := by decide +kernel
theorem dX6_keep_5 : decode cX6_keep 5 = .ok (.getfield 12, 3) := by decide +kernel
theorem dX6_keep_8 : decode cX6_keep 8 = .ok (.invokevirtual 188, 3) := by decide +kernel
theorem dX6_keep_11 : decode cX6_keep 11 = .ok (.aload_n 0, 1) := by decide +kernel
theorem dX6_keep_12 : decode cX6_keep 12 = .ok (.iconst 1, 1) := by decide +kernel
theorem dX6_keep_13 : decode cX6_keep 13 = .ok (.putfield 26, 3) := by decide +kernel
theorem dX6_keep_16 : decode cX6_keep 16 = .ok (.aload_n 0, 1) := by decide +kernel
theorem dX6_keep_17 : decode cX6_keep 17 = .ok (.getfield 12, 3) := by decide +kernel
theorem dX6_keep_20 : decode cX6_keep 20 = .ok (.getfield 79, 3) := by decide +kernel
theorem dX6_keep_23 : decode cX6_keep 23 = .ok (.getfield 191, 3) := by decide +kernel
theorem dX6_keep_26 : decode cX6_keep 26 = .ok (.ireturn, 1) := by decide +kernel
theorem dX6_restore_0 : decode cX6_restore 0 = .ok (.aload_n 0, 1) := by decide +kernel
theorem dX6_restore_1 : decode cX6_restore 1 = .ok (.getfield 26, 3) := by decide +kernel
theorem dX6_restore_4 : decode cX6_restore 4 = .ok (.ifCond .ne 13, 3) := by decide +kernel
theorem dX6_restore_7 : decode cX6_restore 7 = .ok (.new 59, 3) := by decide +kernel
theorem dX6_restore_10 : decode cX6_restore 10 = .ok (.dup, 1) := by decide +kernel
theorem dX6_restore_11 : decode cX6_restore 11 = .ok (.ldc 192, 2) := by decide +kernel
theorem dX6_restore_13 : decode cX6_restore 13 = .ok (.invokespecial 63, 3) := by decide +kernel
theorem dX6_restore_16 : decode cX6_restore 16 = .ok (.athrow, 1) := by decide +kernel
theorem dX6_restore_17 : decode cX6_restore 17 = .ok (.aload_n 0, 1) := by decide +kernel
theorem dX6_restore_18 : decode cX6_restore 18 = .ok (.getfield 19, 3) := by decide +kernel
theorem dX6_restore_21 : decode cX6_restore 21 = .ok (.aload_n 0, 1) := by decide +kernel
theorem dX6_restore_22 : decode cX6_restore 22 = .ok (.getfield 12, 3) := by decide +kernel
theorem dX6_restore_25 : decode cX6_restore 25 = .ok (.invokevirtual 64, 3) := by decide +kernel
theorem dX6_restore_28 : decode cX6_restore 28 = .ok (.aload_n 0, 1) := by decide +kernel
theorem dX6_restore_29 : decode cX6_restore 29 = .ok (.getfield 12, 3) := by decide +kernel
theorem dX6_restore_32 : decode cX6_restore 32 = .ok (.aload_n 0, 1) := by decide +kernel
theorem dX6_restore_33 : decode cX6_restore 33 = .ok (.getfield 23, 3) := by decide +kernel
theorem dX6_restore_36 : decode cX6_restore 36 = .ok (.invokevirtual 188, 3) := by decide +kernel
theorem dX6_restore_39 : decode cX6_restore 39 = .ok (.aload_n 0, 1) := by decide +kernel
theorem dX6_restore_40 : decode cX6_restore 40 = .ok (.getfield 12, 3) := by decide +kernel
theorem dX6_restore_43 : decode cX6_restore 43 = .ok (.getfield 79, 3) := by decide +kernel
theorem dX6_restore_46 : decode cX6_restore 46 = .ok (.getfield 191, 3) := by decide +kernel
theorem dX6_restore_49 : decode cX6_restore 49 = .ok (.ireturn, 1) := by decide +kernel
theorem dX6_box_0 : decode cX6_box 0 = .ok (.iload_n 1, 1) := by decide +kernel
theorem dX6_box_1 : decode cX6_box 1 = .ok (.invokestatic 44, 3) := by decide +kernel
theorem dX6_box_4 : decode cX6_box 4 = .ok (.ifCond .ne 13, 3) := by decide +kernel
theorem dX6_box_7 : decode cX6_box 7 = .ok (.new 48, 3) := by decide +kernel
theorem dX6_box_10 : decode cX6_box 10 = .ok (.dup, 1) := by decide +kernel
theorem dX6_box_11 : decode cX6_box 11 = .ok (.ldc 117, 2) := by decide +kernel
theorem dX6_box_13 : decode cX6_box 13 = .ok (.invokespecial 52, 3) := by decide +kernel
theorem dX6_box_16 : decode cX6_box 16 = .ok (.athrow, 1) := by decide +kernel
theorem dX6_box_17 : decode cX6_box 17 = .ok (.iload_n 2, 1) := by decide +kernel
theorem dX6_box_18 : decode cX6_box 18 = .ok (.ifCond .lt 9, 3) := by decide +kernel
theorem dX6_box_21 : decode cX6_box 21 = .ok (.iload_n 2, 1) := by decide +kernel
theorem dX6_box_22 : decode cX6_box 22 = .ok (.bipush 7, 2) := by decide +kernel
theorem dX6_box_24 : decode cX6_box 24 = .ok (.if_icmp .lt 13, 3) := by decide +kernel
theorem dX6_box_27 : decode cX6_box 27 = .ok (.new 71, 3) := by decide +kernel
theorem dX6_box_30 : decode cX6_box 30 = .ok (.dup, 1) := by decide +kernel
theorem dX6_box_31 : decode cX6_box 31 = .ok (.ldc 194, 2) := by decide +kernel
theorem dX6_box_33 : decode cX6_box 33 = .ok (.invokespecial 75, 3) := by decide +kernel
theorem dX6_box_36 : decode cX6_box 36 = .ok (.athrow, 1) := by decide +kernel
theorem dX6_box_37 : decode cX6_box 37 = .ok (.aload_n 0, 1) := by decide +kernel
theorem dX6_box_38 : decode cX6_box 38 = .ok (.iload_n 1, 1) := by decide +kernel
theorem dX6_box_39 : decode cX6_box 39 = .ok (.iload_n 2, 1) := by decide +kernel
theorem dX6_box_40 : decode cX6_box 40 = .ok (.invokevirtual 196, 3) := by decide +kernel
theorem dX6_box_43 : decode cX6_box 43 = .ok (.ireturn, 1) := by decide +kernel
theorem dX6_type_0 : decode cX6_type 0 = .ok (.iload_n 1, 1) := by decide +kernel
theorem dX6_type_1 : decode cX6_type 1 = .ok (.invokestatic 44, 3) := by decide +kernel
theorem dX6_type_4 : decode cX6_type 4 = .ok (.ifCond .ne 13, 3) := by decide +kernel
theorem dX6_type_7 : decode cX6_type 7 = .ok (.new 48, 3) := by decide +kernel
theorem dX6_type_10 : decode cX6_type 10 = .ok (.dup, 1) := by decide +kernel
theorem dX6_type_11 : decode cX6_type 11 = .ok (.ldc 117, 2) := by decide +kernel
theorem dX6_type_13 : decode cX6_type 13 = .ok (.invokespecial 52, 3) := by decide +kernel
theorem dX6_type_16 : decode cX6_type 16 = .ok (.athrow, 1) := by decide +kernel
theorem dX6_type_17 : decode cX6_type 17 = .ok (.iload_n 2, 1) := by decide +kernel
theorem dX6_type_18 : decode cX6_type 18 = .ok (.ifCond .ge 13, 3) := by decide +kernel
theorem dX6_type_21 : decode cX6_type 21 = .ok (.new 71, 3) := by decide +kernel
theorem dX6_type_24 : decode cX6_type 24 = .ok (.dup, 1) := by decide +kernel
theorem dX6_type_25 : decode cX6_type 25 = .ok (.ldc 199, 2) := by decide +kernel
theorem dX6_type_27 : decode cX6_type 27 = .ok (.invokespecial 75, 3) := by decide +kernel
theorem dX6_type_30 : decode cX6_type 30 = .ok (.athrow, 1) := by decide +kernel
theorem dX6_type_31 : decode cX6_type 31 = .ok (.aload_n 0, 1) := by decide +kernel
theorem dX6_type_32 : decode cX6_type 32 = .ok (.getfield 12, 3) := by decide +kernel
theorem dX6_type_35 : decode cX6_type 35 = .ok (.getfield 111, 3) := by decide +kernel
theorem dX6_type_38 : decode cX6_type 38 = .ok (.iload_n 1, 1) := by decide +kernel
theorem dX6_type_39 : decode cX6_type 39 = .ok (.iload_n 2, 1) := by decide +kernel
theorem dX6_type_40 : decode cX6_type 40 = .ok (.invokevirtual 201, 3) := by decide +kernel
theorem dX6_type_43 : decode cX6_type 43 = .ok (.ireturn, 1) := by decide +kernel
theorem dX6_line_0 : decode cX6_line 0 = .ok (.aload_n 0, 1) := by decide +kernel
theorem dX6_line_1 : decode cX6_line 1 = .ok (.getfield 12, 3) := by decide +kernel
theorem dX6_line_4 : decode cX6_line 4 = .ok (.getfield 79, 3) := by decide +kernel
theorem dX6_line_7 : decode cX6_line 7 = .ok (.iload_n 1, 1) := by decide +kernel
theorem dX6_line_8 : decode cX6_line 8 = .ok (.invokevirtual 83, 3) := by decide +kernel
theorem dX6_line_11 : decode cX6_line 11 = .ok (.ifCond .ne 13, 3) := by decide +kernel
theorem dX6_line_14 : decode cX6_line 14 = .ok (.new 48, 3) := by decide +kernel
theorem dX6_line_17 : decode cX6_line 17 = .ok (.dup, 1) := by decide +kernel
theorem dX6_line_18 : decode cX6_line 18 = .ok (.ldc 88, 2) := by decide +kernel
theorem dX6_line_20 : decode cX6_line 20 = .ok (.invokespecial 52, 3) := by decide +kernel
theorem dX6_line_23 : decode cX6_line 23 = .ok (.athrow, 1) := by decide +kernel
theorem dX6_line_24 : decode cX6_line 24 = .ok (.iload_n 2, 1) := by decide +kernel
theorem dX6_line_25 : decode cX6_line 25 = .ok (.ifCond .lt 8, 3) := by decide +kernel
theorem dX6_line_28 : decode cX6_line 28 = .ok (.iload_n 2, 1) := by decide +kernel
theorem dX6_line_29 : decode cX6_line 29 = .ok (.iconst 4, 1) := by decide +kernel
theorem dX6_line_30 : decode cX6_line 30 = .ok (.if_icmp .lt 13, 3) := by decide +kernel
theorem dX6_line_33 : decode cX6_line 33 = .ok (.new 71, 3) := by decide +kernel
theorem dX6_line_36 : decode cX6_line 36 = .ok (.dup, 1) := by decide +kernel
theorem dX6_line_37 : decode cX6_line 37 = .ok (.ldc 204, 2) := by decide +kernel
theorem dX6_line_39 : decode cX6_line 39 = .ok (.invokespecial 75, 3) := by decide +kernel
theorem dX6_line_42 : decode cX6_line 42 = .ok (.athrow, 1) := by decide +kernel
theorem dX6_line_43 : decode cX6_line 43 = .ok (.aload_n 0, 1) := by decide +kernel
theorem dX6_line_44 : decode cX6_line 44 = .ok (.iload_n 1, 1) := by decide +kernel
theorem dX6_line_45 : decode cX6_line 45 = .ok (.iload_n 2, 1) := by decide +kernel
theorem dX6_line_46 : decode cX6_line 46 = .ok (.invokevirtual 206, 3) := by decide +kernel
theorem dX6_line_49 : decode cX6_line 49 = .ok (.ireturn, 1) := by decide +kernel
theorem dX6_count_0 : decode cX6_count 0 = .ok (.iload_n 1, 1) := by decide +kernel
theorem dX6_count_1 : decode cX6_count 1 = .ok (.ifCond .lt 9, 3) := by decide +kernel
theorem dX6_count_4 : decode cX6_count 4 = .ok (.iload_n 1, 1) := by decide +kernel
theorem dX6_count_5 : decode cX6_count 5 = .ok (.bipush 18, 2) := by decide +kernel
theorem dX6_count_7 : decode cX6_count 7 = .ok (.if_icmp .lt 13, 3) := by decide +kernel
theorem dX6_count_10 : decode cX6_count 10 = .ok (.new 71, 3) := by decide +kernel
theorem dX6_count_13 : decode cX6_count 13 = .ok (.dup, 1) := by decide +kernel
theorem dX6_count_14 : decode cX6_count 14 = .ok (.ldc 209, 2) := by decide +kernel
theorem dX6_count_16 : decode cX6_count 16 = .ok (.invokespecial 75, 3) := by decide +kernel
theorem dX6_count_19 : decode cX6_count 19 = .ok (.athrow, 1) := by decide +kernel
theorem dX6_count_20 : decode cX6_count 20 = .ok (.aload_n 0, 1) := by decide +kernel
theorem dX6_count_21 : decode cX6_count 21 = .ok (.iload_n 1, 1) := by decide +kernel
theorem dX6_count_22 : decode cX6_count 22 = .ok (.invokevirtual 211, 3) := by decide +kernel
theorem dX6_count_25 : decode cX6_count 25 = .ok (.ireturn, 1) := by decide +kernel
theorem dX6_whyNot_0 : decode cX6_whyNot 0 = .ok (.iload_n 1, 1) := by decide +kernel
theorem dX6_whyNot_1 : decode cX6_whyNot 1 = .ok (.invokestatic 44, 3) := by decide +kernel
theorem dX6_whyNot_4 : decode cX6_whyNot 4 = .ok (.ifCond .ne 13, 3) := by decide +kernel
theorem dX6_whyNot_7 : decode cX6_whyNot 7 = .ok (.new 48, 3) := by decide +kernel
theorem dX6_whyNot_10 : decode cX6_whyNot 10 = .ok (.dup, 1) := by decide +kernel
theorem dX6_whyNot_11 : decode cX6_whyNot 11 = .ok (.ldc 50, 2) := by decide +kernel
theorem dX6_whyNot_13 : decode cX6_whyNot 13 = .ok (.invokespecial 52, 3) := by decide +kernel
theorem dX6_whyNot_16 : decode cX6_whyNot 16 = .ok (.athrow, 1) := by decide +kernel
theorem dX6_whyNot_17 : decode cX6_whyNot 17 = .ok (.aload_n 0, 1) := by decide +kernel
theorem dX6_whyNot_18 : decode cX6_whyNot 18 = .ok (.getfield 12, 3) := by decide +kernel
theorem dX6_whyNot_21 : decode cX6_whyNot 21 = .ok (.iload_n 1, 1) := by decide +kernel
theorem dX6_whyNot_22 : decode cX6_whyNot 22 = .ok (.invokevirtual 55, 3) := by decide +kernel
theorem dX6_whyNot_25 : decode cX6_whyNot 25 = .ok (.ireturn, 1) := by decide +kernel
theorem dX6_ifSet_0 : decode cX6_ifSet 0 = .ok (.iload_n 1, 1) := by decide +kernel
theorem dX6_ifSet_1 : decode cX6_ifSet 1 = .ok (.invokestatic 44, 3) := by decide +kernel
theorem dX6_ifSet_4 : decode cX6_ifSet 4 = .ok (.ifCond .ne 13, 3) := by decide +kernel
theorem dX6_ifSet_7 : decode cX6_ifSet 7 = .ok (.new 48, 3) := by decide +kernel
theorem dX6_ifSet_10 : decode cX6_ifSet 10 = .ok (.dup, 1) := by decide +kernel
theorem dX6_ifSet_11 : decode cX6_ifSet 11 = .ok (.ldc 50, 2) := by decide +kernel
theorem dX6_ifSet_13 : decode cX6_ifSet 13 = .ok (.invokespecial 52, 3) := by decide +kernel
theorem dX6_ifSet_16 : decode cX6_ifSet 16 = .ok (.athrow, 1) := by decide +kernel
theorem dX6_ifSet_17 : decode cX6_ifSet 17 = .ok (.iload_n 2, 1) := by decide +kernel
theorem dX6_ifSet_18 : decode cX6_ifSet 18 = .ok (.iconst 1, 1) := by decide +kernel
theorem dX6_ifSet_19 : decode cX6_ifSet 19 = .ok (.if_icmp .lt 9, 3) := by decide +kernel
theorem dX6_ifSet_22 : decode cX6_ifSet 22 = .ok (.iload_n 2, 1) := by decide +kernel
theorem dX6_ifSet_23 : decode cX6_ifSet 23 = .ok (.bipush 20, 2) := by decide +kernel
theorem dX6_ifSet_25 : decode cX6_ifSet 25 = .ok (.if_icmp .le 13, 3) := by decide +kernel
theorem dX6_ifSet_28 : decode cX6_ifSet 28 = .ok (.new 71, 3) := by decide +kernel
theorem dX6_ifSet_31 : decode cX6_ifSet 31 = .ok (.dup, 1) := by decide +kernel
theorem dX6_ifSet_32 : decode cX6_ifSet 32 = .ok (.ldc 214, 2) := by decide +kernel
theorem dX6_ifSet_34 : decode cX6_ifSet 34 = .ok (.invokespecial 75, 3) := by decide +kernel
theorem dX6_ifSet_37 : decode cX6_ifSet 37 = .ok (.athrow, 1) := by decide +kernel
theorem dX6_ifSet_38 : decode cX6_ifSet 38 = .ok (.aload_n 0, 1) := by decide +kernel
theorem dX6_ifSet_39 : decode cX6_ifSet 39 = .ok (.getfield 12, 3) := by decide +kernel
theorem dX6_ifSet_42 : decode cX6_ifSet 42 = .ok (.iload_n 1, 1) := by decide +kernel
theorem dX6_ifSet_43 : decode cX6_ifSet 43 = .ok (.iload_n 2, 1) := by decide +kernel
theorem dX6_ifSet_44 : decode cX6_ifSet 44 = .ok (.invokevirtual 216, 3) := by decide +kernel
theorem dX6_ifSet_47 : decode cX6_ifSet 47 = .ok (.ireturn, 1) := by decide +kernel
theorem dX6_sortedIn_0 : decode cX6_sortedIn 0 = .ok (.aload_n 0, 1) := by decide +kernel
theorem dX6_sortedIn_1 : decode cX6_sortedIn 1 = .ok (.getfield 40, 3) := by decide +kernel
theorem dX6_sortedIn_4 : decode cX6_sortedIn 4 = .ok (.aload_n 0, 1) := by decide +kernel
theorem dX6_sortedIn_5 : decode cX6_sortedIn 5 = .ok (.getfield 12, 3) := by decide +kernel
theorem dX6_sortedIn_8 : decode cX6_sortedIn 8 = .ok (.getfield 111, 3) := by decide +kernel
theorem dX6_sortedIn_11 : decode cX6_sortedIn 11 = .ok (.invokevirtual 219, 3) := by decide +kernel
theorem dX6_sortedIn_14 : decode cX6_sortedIn 14 = .ok (.aload_n 0, 1) := by decide +kernel
theorem dX6_sortedIn_15 : decode cX6_sortedIn 15 = .ok (.getfield 40, 3) := by decide +kernel
theorem dX6_sortedIn_18 : decode cX6_sortedIn 18 = .ok (.invokevirtual 222, 3) := by decide +kernel
theorem dX6_sortedIn_21 : decode cX6_sortedIn 21 = .ok (.ireturn, 1) := by decide +kernel
theorem dX6_wrongThen_0 : decode cX6_wrongThen 0 = .ok (.aload_n 0, 1) := by decide +kernel
theorem dX6_wrongThen_1 : decode cX6_wrongThen 1 = .ok (.getfield 40, 3) := by decide +kernel
theorem dX6_wrongThen_4 : decode cX6_wrongThen 4 = .ok (.aload_n 0, 1) := by decide +kernel
theorem dX6_wrongThen_5 : decode cX6_wrongThen 5 = .ok (.getfield 12, 3) := by decide +kernel
theorem dX6_wrongThen_8 : decode cX6_wrongThen 8 = .ok (.getfield 111, 3) := by decide +kernel
theorem dX6_wrongThen_11 : decode cX6_wrongThen 11 = .ok (.invokevirtual 219, 3) := by decide +kernel
theorem dX6_wrongThen_14 : decode cX6_wrongThen 14 = .ok (.aload_n 0, 1) := by decide +kernel
theorem dX6_wrongThen_15 : decode cX6_wrongThen 15 = .ok (.getfield 40, 3) := by decide +kernel
theorem dX6_wrongThen_18 : decode cX6_wrongThen 18 = .ok (.invokevirtual 222, 3) := by decide +kernel
theorem dX6_wrongThen_21 : decode cX6_wrongThen 21 = .ok (.pop, 1) := by decide +kernel
theorem dX6_wrongThen_22 : decode cX6_wrongThen 22 = .ok (.aload_n 0, 1) := by decide +kernel
theorem dX6_wrongThen_23 : decode cX6_wrongThen 23 = .ok (.getfield 40, 3) := by decide +kernel
theorem dX6_wrongThen_26 : decode cX6_wrongThen 26 = .ok (.invokevirtual 114, 3) := by decide +kernel
theorem dX6_wrongThen_29 : decode cX6_wrongThen 29 = .ok (.ireturn, 1) := by decide +kernel
theorem dX6_rightShare_0 : decode cX6_rightShare 0 = .ok (.aload_n 0, 1) := by decide +kernel
theorem dX6_rightShare_1 : decode cX6_rightShare 1 = .ok (.getfield 12, 3) := by decide +kernel
theorem dX6_rightShare_4 : decode cX6_rightShare 4 = .ok (.getfield 79, 3) := by decide +kernel
theorem dX6_rightShare_7 : decode cX6_rightShare 7 = .ok (.getfield 191, 3) := by decide +kernel
theorem dX6_rightShare_10 : decode cX6_rightShare 10 = .ok (.istore_n 1, 1) := by decide +kernel
theorem dX6_rightShare_11 : decode cX6_rightShare 11 = .ok (.iload_n 1, 1) := by decide +kernel
theorem dX6_rightShare_12 : decode cX6_rightShare 12 = .ok (.ifCond .gt 5, 3) := by decide +kernel
theorem dX6_rightShare_15 : decode cX6_rightShare 15 = .ok (.dconst 1, 1) := by decide +kernel
theorem dX6_rightShare_16 : decode cX6_rightShare 16 = .ok (.dreturn, 1) := by decide +kernel
theorem dX6_rightShare_17 : decode cX6_rightShare 17 = .ok (.iload_n 1, 1) := by decide +kernel
theorem dX6_rightShare_18 : decode cX6_rightShare 18 = .ok (.aload_n 0, 1) := by decide +kernel
theorem dX6_rightShare_19 : decode cX6_rightShare 19 = .ok (.getfield 12, 3) := by decide +kernel
theorem dX6_rightShare_22 : decode cX6_rightShare 22 = .ok (.getfield 79, 3) := by decide +kernel
theorem dX6_rightShare_25 : decode cX6_rightShare 25 = .ok (.invokevirtual 99, 3) := by decide +kernel
theorem dX6_rightShare_28 : decode cX6_rightShare 28 = .ok (.isub, 1) := by decide +kernel
theorem dX6_rightShare_29 : decode cX6_rightShare 29 = .ok (.i2d, 1) := by decide +kernel
theorem dX6_rightShare_30 : decode cX6_rightShare 30 = .ok (.iload_n 1, 1) := by decide +kernel
theorem dX6_rightShare_31 : decode cX6_rightShare 31 = .ok (.i2d, 1) := by decide +kernel
theorem dX6_rightShare_32 : decode cX6_rightShare 32 = .ok (.ddiv, 1) := by decide +kernel
theorem dX6_rightShare_33 : decode cX6_rightShare 33 = .ok (.dreturn, 1) := by decide +kernel
theorem dX6_digest_0 : decode cX6_digest 0 = .ok (.ldc2_w 225, 3) := by decide +kernel
theorem dX6_digest_3 : decode cX6_digest 3 = .ok (.lstore_n 1, 1) := by decide +kernel
theorem dX6_digest_4 : decode cX6_digest 4 = .ok (.iconst 0, 1) := by decide +kernel
theorem dX6_digest_5 : decode cX6_digest 5 = .ok (.istore_n 3, 1) := by decide +kernel
theorem dX6_digest_6 : decode cX6_digest 6 = .ok (.iload_n 3, 1) := by decide +kernel
theorem dX6_digest_7 : decode cX6_digest 7 = .ok (.bipush 18, 2) := by decide +kernel
theorem dX6_digest_9 : decode cX6_digest 9 = .ok (.if_icmp .ge 20, 3) := by decide +kernel
theorem dX6_digest_12 : decode cX6_digest 12 = .ok (.lload_n 1, 1) := by decide +kernel
theorem dX6_digest_13 : decode cX6_digest 13 = .ok (.aload_n 0, 1) := by decide +kernel
theorem dX6_digest_14 : decode cX6_digest 14 = .ok (.iload_n 3, 1) := by decide +kernel
theorem dX6_digest_15 : decode cX6_digest 15 = .ok (.invokevirtual 211, 3) := by decide +kernel
theorem dX6_digest_18 : decode cX6_digest 18 = .ok (.i2l, 1) := by decide +kernel
theorem dX6_digest_19 : decode cX6_digest 19 = .ok (.invokestatic 227, 3) := by decide +kernel
theorem dX6_digest_22 : decode cX6_digest 22 = .ok (.lstore_n 1, 1) := by decide +kernel
theorem dX6_digest_23 : decode cX6_digest 23 = .ok (.iinc 3 1, 3) := by decide +kernel
theorem dX6_digest_26 : decode cX6_digest 26 = .ok (.goto (-20), 3) := by decide +kernel
theorem dX6_digest_29 : decode cX6_digest 29 = .ok (.iconst 0, 1) := by decide +kernel
theorem dX6_digest_30 : decode cX6_digest 30 = .ok (.istore_n 3, 1) := by decide +kernel
theorem dX6_digest_31 : decode cX6_digest 31 = .ok (.iload_n 3, 1) := by decide +kernel
theorem dX6_digest_32 : decode cX6_digest 32 = .ok (.bipush 12, 2) := by decide +kernel
theorem dX6_digest_34 : decode cX6_digest 34 = .ok (.if_icmp .ge 16, 3) := by decide +kernel
theorem dX6_digest_37 : decode cX6_digest 37 = .ok (.aload_n 0, 1) := by decide +kernel
theorem dX6_digest_38 : decode cX6_digest 38 = .ok (.lload_n 1, 1) := by decide +kernel
theorem dX6_digest_39 : decode cX6_digest 39 = .ok (.iload_n 3, 1) := by decide +kernel
theorem dX6_digest_40 : decode cX6_digest 40 = .ok (.invokevirtual 231, 3) := by decide +kernel
theorem dX6_digest_43 : decode cX6_digest 43 = .ok (.lstore_n 1, 1) := by decide +kernel
theorem dX6_digest_44 : decode cX6_digest 44 = .ok (.iinc 3 1, 3) := by decide +kernel
theorem dX6_digest_47 : decode cX6_digest 47 = .ok (.goto (-16), 3) := by decide +kernel
theorem dX6_digest_50 : decode cX6_digest 50 = .ok (.aload_n 0, 1) := by decide +kernel
theorem dX6_digest_51 : decode cX6_digest 51 = .ok (.lload_n 1, 1) := by decide +kernel
theorem dX6_digest_52 : decode cX6_digest 52 = .ok (.invokevirtual 235, 3) := by decide +kernel
theorem dX6_digest_55 : decode cX6_digest 55 = .ok (.lstore_n 1, 1) := by decide +kernel
theorem dX6_digest_56 : decode cX6_digest 56 = .ok (.lload_n 1, 1) := by decide +kernel
theorem dX6_digest_57 : decode cX6_digest 57 = .ok (.aload_n 0, 1) := by decide +kernel
theorem dX6_digest_58 : decode cX6_digest 58 = .ok (.getfield 12, 3) := by decide +kernel
theorem dX6_digest_61 : decode cX6_digest 61 = .ok (.getfield 167, 3) := by decide +kernel
theorem dX6_digest_64 : decode cX6_digest 64 = .ok (.i2l, 1) := by decide +kernel
theorem dX6_digest_65 : decode cX6_digest 65 = .ok (.invokestatic 227, 3) := by decide +kernel
theorem dX6_digest_68 : decode cX6_digest 68 = .ok (.lstore_n 1, 1) := by decide +kernel
theorem dX6_digest_69 : decode cX6_digest 69 = .ok (.lload_n 1, 1) := by decide +kernel
theorem dX6_digest_70 : decode cX6_digest 70 = .ok (.aload_n 0, 1) := by decide +kernel
theorem dX6_digest_71 : decode cX6_digest 71 = .ok (.getfield 12, 3) := by decide +kernel
theorem dX6_digest_74 : decode cX6_digest 74 = .ok (.getfield 170, 3) := by decide +kernel
theorem dX6_digest_77 : decode cX6_digest 77 = .ok (.i2l, 1) := by decide +kernel
theorem dX6_digest_78 : decode cX6_digest 78 = .ok (.invokestatic 227, 3) := by decide +kernel
theorem dX6_digest_81 : decode cX6_digest 81 = .ok (.lstore_n 1, 1) := by decide +kernel
theorem dX6_digest_82 : decode cX6_digest 82 = .ok (.lload_n 1, 1) := by decide +kernel
theorem dX6_digest_83 : decode cX6_digest 83 = .ok (.aload_n 0, 1) := by decide +kernel
theorem dX6_digest_84 : decode cX6_digest 84 = .ok (.invokevirtual 239, 3) := by decide +kernel
theorem dX6_digest_87 : decode cX6_digest 87 = .ok (.i2l, 1) := by decide +kernel
theorem dX6_digest_88 : decode cX6_digest 88 = .ok (.invokestatic 227, 3) := by decide +kernel
theorem dX6_digest_91 : decode cX6_digest 91 = .ok (.lstore_n 1, 1) := by decide +kernel
theorem dX6_digest_92 : decode cX6_digest 92 = .ok (.lload_n 1, 1) := by decide +kernel
theorem dX6_digest_93 : decode cX6_digest 93 = .ok (.aload_n 0, 1) := by decide +kernel
theorem dX6_digest_94 : decode cX6_digest 94 = .ok (.invokevirtual 242, 3) := by decide +kernel
theorem dX6_digest_97 : decode cX6_digest 97 = .ok (.i2l, 1) := by decide +kernel
theorem dX6_digest_98 : decode cX6_digest 98 = .ok (.invokestatic 227, 3) := by decide +kernel
theorem dX6_digest_101 : decode cX6_digest 101 = .ok (.lstore_n 1, 1) := by decide +kernel
theorem dX6_digest_102 : decode cX6_digest 102 = .ok (.lload_n 1, 1) := by decide +kernel
theorem dX6_digest_103 : decode cX6_digest 103 = .ok (.aload_n 0, 1) := by decide +kernel
theorem dX6_digest_104 : decode cX6_digest 104 = .ok (.invokevirtual 245, 3) := by decide +kernel
theorem dX6_digest_107 : decode cX6_digest 107 = .ok (.invokestatic 249, 3) := by decide +kernel
theorem dX6_digest_110 : decode cX6_digest 110 = .ok (.invokestatic 227, 3) := by decide +kernel
theorem dX6_digest_113 : decode cX6_digest 113 = .ok (.lstore_n 1, 1) := by decide +kernel
theorem dX6_digest_114 : decode cX6_digest 114 = .ok (.lload_n 1, 1) := by decide +kernel
theorem dX6_digest_115 : decode cX6_digest 115 = .ok (.aload_n 0, 1) := by decide +kernel
theorem dX6_digest_116 : decode cX6_digest 116 = .ok (.getfield 33, 3) := by decide +kernel
theorem dX6_digest_119 : decode cX6_digest 119 = .ok (.getfield 140, 3) := by decide +kernel
theorem dX6_digest_122 : decode cX6_digest 122 = .ok (.i2l, 1) := by decide +kernel
theorem dX6_digest_123 : decode cX6_digest 123 = .ok (.invokestatic 227, 3) := by decide +kernel
theorem dX6_digest_126 : decode cX6_digest 126 = .ok (.lstore_n 1, 1) := by decide +kernel
theorem dX6_digest_127 : decode cX6_digest 127 = .ok (.iconst 0, 1) := by decide +kernel
theorem dX6_digest_128 : decode cX6_digest 128 = .ok (.istore_n 3, 1) := by decide +kernel
theorem dX6_digest_129 : decode cX6_digest 129 = .ok (.iload_n 3, 1) := by decide +kernel
theorem dX6_digest_130 : decode cX6_digest 130 = .ok (.aload_n 0, 1) := by decide +kernel
theorem dX6_digest_131 : decode cX6_digest 131 = .ok (.getfield 33, 3) := by decide +kernel
theorem dX6_digest_134 : decode cX6_digest 134 = .ok (.getfield 140, 3) := by decide +kernel
theorem dX6_digest_137 : decode cX6_digest 137 = .ok (.if_icmp .ge 23, 3) := by decide +kernel
theorem dX6_digest_140 : decode cX6_digest 140 = .ok (.lload_n 1, 1) := by decide +kernel
theorem dX6_digest_141 : decode cX6_digest 141 = .ok (.aload_n 0, 1) := by decide +kernel
theorem dX6_digest_142 : decode cX6_digest 142 = .ok (.getfield 33, 3) := by decide +kernel
theorem dX6_digest_145 : decode cX6_digest 145 = .ok (.iload_n 3, 1) := by decide +kernel
theorem dX6_digest_146 : decode cX6_digest 146 = .ok (.invokevirtual 253, 3) := by decide +kernel
theorem dX6_digest_149 : decode cX6_digest 149 = .ok (.i2l, 1) := by decide +kernel
theorem dX6_digest_150 : decode cX6_digest 150 = .ok (.invokestatic 227, 3) := by decide +kernel
theorem dX6_digest_153 : decode cX6_digest 153 = .ok (.lstore_n 1, 1) := by decide +kernel
theorem dX6_digest_154 : decode cX6_digest 154 = .ok (.iinc 3 1, 3) := by decide +kernel
theorem dX6_digest_157 : decode cX6_digest 157 = .ok (.goto (-28), 3) := by decide +kernel
theorem dX6_digest_160 : decode cX6_digest 160 = .ok (.lload_n 1, 1) := by decide +kernel
theorem dX6_digest_161 : decode cX6_digest 161 = .ok (.lreturn, 1) := by decide +kernel
theorem dX6_isSort_0 : decode cX6_isSort 0 = .ok (.iload_n 0, 1) := by decide +kernel
theorem dX6_isSort_1 : decode cX6_isSort 1 = .ok (.ifCond .lt 13, 3) := by decide +kernel
theorem dX6_isSort_4 : decode cX6_isSort 4 = .ok (.iload_n 0, 1) := by decide +kernel
theorem dX6_isSort_5 : decode cX6_isSort 5 = .ok (.bipush 12, 2) := by decide +kernel
theorem dX6_isSort_7 : decode cX6_isSort 7 = .ok (.if_icmp .ge 7, 3) := by decide +kernel
theorem dX6_isSort_10 : decode cX6_isSort 10 = .ok (.iconst 1, 1) := by decide +kernel
theorem dX6_isSort_11 : decode cX6_isSort 11 = .ok (.goto 4, 3) := by decide +kernel
theorem dX6_isSort_14 : decode cX6_isSort 14 = .ok (.iconst 0, 1) := by decide +kernel
theorem dX6_isSort_15 : decode cX6_isSort 15 = .ok (.ireturn, 1) := by decide +kernel
theorem dX6_widthOf_0 : decode cX6_widthOf 0 = .ok (.iconst 2, 1) := by decide +kernel
theorem dX6_widthOf_1 : decode cX6_widthOf 1 = .ok (.iload_n 0, 1) := by decide +kernel
theorem dX6_widthOf_2 : decode cX6_widthOf 2 = .ok (.iconst 3, 1) := by decide +kernel
theorem dX6_widthOf_3 : decode cX6_widthOf 3 = .ok (.irem, 1) := by decide +kernel
theorem dX6_widthOf_4 : decode cX6_widthOf 4 = .ok (.iadd, 1) := by decide +kernel
theorem dX6_widthOf_5 : decode cX6_widthOf 5 = .ok (.ireturn, 1) := by decide +kernel
theorem dX6_numberOfBox_0 : decode cX6_numberOfBox 0 = .ok (.iload_n 2, 1) := by decide +kernel
theorem dX6_numberOfBox_1 : decode cX6_numberOfBox 1 = .ok (.tableswitch 118 0 5 #[39, 51, 63, 76, 81, 98], 39) := by decide +kernel
theorem dX6_numberOfBox_40 : decode cX6_numberOfBox 40 = .ok (.aload_n 0, 1) := by decide +kernel
theorem dX6_numberOfBox_41 : decode cX6_numberOfBox 41 = .ok (.getfield 12, 3) := by decide +kernel
theorem dX6_numberOfBox_44 : decode cX6_numberOfBox 44 = .ok (.getfield 111, 3) := by decide +kernel
theorem dX6_numberOfBox_47 : decode cX6_numberOfBox 47 = .ok (.iload_n 1, 1) := by decide +kernel
theorem dX6_numberOfBox_48 : decode cX6_numberOfBox 48 = .ok (.invokevirtual 256, 3) := by decide +kernel
theorem dX6_numberOfBox_51 : decode cX6_numberOfBox 51 = .ok (.ireturn, 1) := by decide +kernel
theorem dX6_numberOfBox_52 : decode cX6_numberOfBox 52 = .ok (.aload_n 0, 1) := by decide +kernel
theorem dX6_numberOfBox_53 : decode cX6_numberOfBox 53 = .ok (.getfield 12, 3) := by decide +kernel
theorem dX6_numberOfBox_56 : decode cX6_numberOfBox 56 = .ok (.getfield 111, 3) := by decide +kernel
theorem dX6_numberOfBox_59 : decode cX6_numberOfBox 59 = .ok (.iload_n 1, 1) := by decide +kernel
theorem dX6_numberOfBox_60 : decode cX6_numberOfBox 60 = .ok (.invokevirtual 259, 3) := by decide +kernel
theorem dX6_numberOfBox_63 : decode cX6_numberOfBox 63 = .ok (.ireturn, 1) := by decide +kernel
theorem dX6_numberOfBox_64 : decode cX6_numberOfBox 64 = .ok (.aload_n 0, 1) := by decide +kernel
theorem dX6_numberOfBox_65 : decode cX6_numberOfBox 65 = .ok (.getfield 12, 3) := by decide +kernel
theorem dX6_numberOfBox_68 : decode cX6_numberOfBox 68 = .ok (.getfield 111, 3) := by decide +kernel
theorem dX6_numberOfBox_71 : decode cX6_numberOfBox 71 = .ok (.iload_n 1, 1) := by decide +kernel
theorem dX6_numberOfBox_72 : decode cX6_numberOfBox 72 = .ok (.iconst 0, 1) := by decide +kernel
theorem dX6_numberOfBox_73 : decode cX6_numberOfBox 73 = .ok (.invokevirtual 201, 3) := by decide +kernel
theorem dX6_numberOfBox_76 : decode cX6_numberOfBox 76 = .ok (.ireturn, 1) := by decide +kernel
theorem dX6_numberOfBox_77 : decode cX6_numberOfBox 77 = .ok (.iload_n 1, 1) := by decide +kernel
theorem dX6_numberOfBox_78 : decode cX6_numberOfBox 78 = .ok (.invokestatic 262, 3) := by decide +kernel
theorem dX6_numberOfBox_81 : decode cX6_numberOfBox 81 = .ok (.ireturn, 1) := by decide +kernel
theorem dX6_numberOfBox_82 : decode cX6_numberOfBox 82 = .ok (.aload_n 0, 1) := by decide +kernel
theorem dX6_numberOfBox_83 : decode cX6_numberOfBox 83 = .ok (.getfield 12, 3) := by decide +kernel
theorem dX6_numberOfBox_86 : decode cX6_numberOfBox 86 = .ok (.getfield 265, 3) := by decide +kernel
theorem dX6_numberOfBox_89 : decode cX6_numberOfBox 89 = .ok (.iload_n 1, 1) := by decide +kernel
theorem dX6_numberOfBox_90 : decode cX6_numberOfBox 90 = .ok (.if_icmp .ne 7, 3) := by decide +kernel
theorem dX6_numberOfBox_93 : decode cX6_numberOfBox 93 = .ok (.iconst 1, 1) := by decide +kernel
theorem dX6_numberOfBox_94 : decode cX6_numberOfBox 94 = .ok (.goto 4, 3) := by decide +kernel
theorem dX6_numberOfBox_97 : decode cX6_numberOfBox 97 = .ok (.iconst 0, 1) := by decide +kernel
theorem dX6_numberOfBox_98 : decode cX6_numberOfBox 98 = .ok (.ireturn, 1) := by decide +kernel
theorem dX6_numberOfBox_99 : decode cX6_numberOfBox 99 = .ok (.aload_n 0, 1) := by decide +kernel
theorem dX6_numberOfBox_100 : decode cX6_numberOfBox 100 = .ok (.getfield 12, 3) := by decide +kernel
theorem dX6_numberOfBox_103 : decode cX6_numberOfBox 103 = .ok (.getfield 111, 3) := by decide +kernel
theorem dX6_numberOfBox_106 : decode cX6_numberOfBox 106 = .ok (.getfield 268, 3) := by decide +kernel
theorem dX6_numberOfBox_109 : decode cX6_numberOfBox 109 = .ok (.iload_n 1, 1) := by decide +kernel
theorem dX6_numberOfBox_110 : decode cX6_numberOfBox 110 = .ok (.if_icmp .ne 7, 3) := by decide +kernel
theorem dX6_numberOfBox_113 : decode cX6_numberOfBox 113 = .ok (.iconst 1, 1) := by decide +kernel
theorem dX6_numberOfBox_114 : decode cX6_numberOfBox 114 = .ok (.goto 4, 3) := by decide +kernel
theorem dX6_numberOfBox_117 : decode cX6_numberOfBox 117 = .ok (.iconst 0, 1) := by decide +kernel
theorem dX6_numberOfBox_118 : decode cX6_numberOfBox 118 = .ok (.ireturn, 1) := by decide +kernel
theorem dX6_numberOfBox_119 : decode cX6_numberOfBox 119 = .ok (.aload_n 0, 1) := by decide +kernel
theorem dX6_numberOfBox_120 : decode cX6_numberOfBox 120 = .ok (.getfield 12, 3) := by decide +kernel
theorem dX6_numberOfBox_123 : decode cX6_numberOfBox 123 = .ok (.getfield 111, 3) := by decide +kernel
theorem dX6_numberOfBox_126 : decode cX6_numberOfBox 126 = .ok (.iload_n 1, 1) := by decide +kernel
theorem dX6_numberOfBox_127 : decode cX6_numberOfBox 127 = .ok (.invokevirtual 271, 3) := by decide +kernel
theorem dX6_numberOfBox_130 : decode cX6_numberOfBox 130 = .ok (.ireturn, 1) := by decide +kernel
theorem dX6_numberOfPlace_0 : decode cX6_numberOfPlace 0 = .ok (.iload_n 2, 1) := by decide +kernel
theorem dX6_numberOfPlace_1 : decode cX6_numberOfPlace 1 = .ok (.tableswitch 71 0 2 #[27, 39, 51], 27) := by decide +kernel
theorem dX6_numberOfPlace_28 : decode cX6_numberOfPlace 28 = .ok (.aload_n 0, 1) := by decide +kernel
theorem dX6_numberOfPlace_29 : decode cX6_numberOfPlace 29 = .ok (.getfield 12, 3) := by decide +kernel
theorem dX6_numberOfPlace_32 : decode cX6_numberOfPlace 32 = .ok (.getfield 79, 3) := by decide +kernel
theorem dX6_numberOfPlace_35 : decode cX6_numberOfPlace 35 = .ok (.iload_n 1, 1) := by decide +kernel
theorem dX6_numberOfPlace_36 : decode cX6_numberOfPlace 36 = .ok (.invokevirtual 274, 3) := by decide +kernel
theorem dX6_numberOfPlace_39 : decode cX6_numberOfPlace 39 = .ok (.ireturn, 1) := by decide +kernel
theorem dX6_numberOfPlace_40 : decode cX6_numberOfPlace 40 = .ok (.aload_n 0, 1) := by decide +kernel
theorem dX6_numberOfPlace_41 : decode cX6_numberOfPlace 41 = .ok (.getfield 12, 3) := by decide +kernel
theorem dX6_numberOfPlace_44 : decode cX6_numberOfPlace 44 = .ok (.getfield 79, 3) := by decide +kernel
theorem dX6_numberOfPlace_47 : decode cX6_numberOfPlace 47 = .ok (.iload_n 1, 1) := by decide +kernel
theorem dX6_numberOfPlace_48 : decode cX6_numberOfPlace 48 = .ok (.invokevirtual 277, 3) := by decide +kernel
theorem dX6_numberOfPlace_51 : decode cX6_numberOfPlace 51 = .ok (.ireturn, 1) := by decide +kernel
theorem dX6_numberOfPlace_52 : decode cX6_numberOfPlace 52 = .ok (.aload_n 0, 1) := by decide +kernel
theorem dX6_numberOfPlace_53 : decode cX6_numberOfPlace 53 = .ok (.getfield 12, 3) := by decide +kernel
theorem dX6_numberOfPlace_56 : decode cX6_numberOfPlace 56 = .ok (.getfield 79, 3) := by decide +kernel
theorem dX6_numberOfPlace_59 : decode cX6_numberOfPlace 59 = .ok (.iload_n 1, 1) := by decide +kernel
theorem dX6_numberOfPlace_60 : decode cX6_numberOfPlace 60 = .ok (.invokevirtual 280, 3) := by decide +kernel
theorem dX6_numberOfPlace_63 : decode cX6_numberOfPlace 63 = .ok (.ifCond .eq 7, 3) := by decide +kernel
theorem dX6_numberOfPlace_66 : decode cX6_numberOfPlace 66 = .ok (.iconst 1, 1) := by decide +kernel
theorem dX6_numberOfPlace_67 : decode cX6_numberOfPlace 67 = .ok (.goto 4, 3) := by decide +kernel
theorem dX6_numberOfPlace_70 : decode cX6_numberOfPlace 70 = .ok (.iconst 0, 1) := by decide +kernel
theorem dX6_numberOfPlace_71 : decode cX6_numberOfPlace 71 = .ok (.ireturn, 1) := by decide +kernel
theorem dX6_numberOfPlace_72 : decode cX6_numberOfPlace 72 = .ok (.aload_n 0, 1) := by decide +kernel
theorem dX6_numberOfPlace_73 : decode cX6_numberOfPlace 73 = .ok (.getfield 12, 3) := by decide +kernel
theorem dX6_numberOfPlace_76 : decode cX6_numberOfPlace 76 = .ok (.iload_n 1, 1) := by decide +kernel
theorem dX6_numberOfPlace_77 : decode cX6_numberOfPlace 77 = .ok (.invokevirtual 90, 3) := by decide +kernel
theorem dX6_numberOfPlace_80 : decode cX6_numberOfPlace 80 = .ok (.ireturn, 1) := by decide +kernel
theorem dX6_numberOfAll_0 : decode cX6_numberOfAll 0 = .ok (.iload_n 1, 1) := by decide +kernel
theorem dX6_numberOfAll_1 : decode cX6_numberOfAll 1 = .ok (.tableswitch 236 0 16 #[83, 94, 105, 116, 127, 138, 146, 165, 173, 184, 192, 200, 208, 216, 224, 224, 224], 83) := by decide +kernel
theorem dX6_numberOfAll_84 : decode cX6_numberOfAll 84 = .ok (.aload_n 0, 1) := by decide +kernel
theorem dX6_numberOfAll_85 : decode cX6_numberOfAll 85 = .ok (.getfield 12, 3) := by decide +kernel
theorem dX6_numberOfAll_88 : decode cX6_numberOfAll 88 = .ok (.getfield 79, 3) := by decide +kernel
theorem dX6_numberOfAll_91 : decode cX6_numberOfAll 91 = .ok (.getfield 191, 3) := by decide +kernel
theorem dX6_numberOfAll_94 : decode cX6_numberOfAll 94 = .ok (.ireturn, 1) := by decide +kernel
theorem dX6_numberOfAll_95 : decode cX6_numberOfAll 95 = .ok (.aload_n 0, 1) := by decide +kernel
theorem dX6_numberOfAll_96 : decode cX6_numberOfAll 96 = .ok (.getfield 12, 3) := by decide +kernel
theorem dX6_numberOfAll_99 : decode cX6_numberOfAll 99 = .ok (.getfield 79, 3) := by decide +kernel
theorem dX6_numberOfAll_102 : decode cX6_numberOfAll 102 = .ok (.invokevirtual 283, 3) := by decide +kernel
theorem dX6_numberOfAll_105 : decode cX6_numberOfAll 105 = .ok (.ireturn, 1) := by decide +kernel
theorem dX6_numberOfAll_106 : decode cX6_numberOfAll 106 = .ok (.aload_n 0, 1) := by decide +kernel
theorem dX6_numberOfAll_107 : decode cX6_numberOfAll 107 = .ok (.getfield 12, 3) := by decide +kernel
theorem dX6_numberOfAll_110 : decode cX6_numberOfAll 110 = .ok (.getfield 79, 3) := by decide +kernel
theorem dX6_numberOfAll_113 : decode cX6_numberOfAll 113 = .ok (.invokevirtual 99, 3) := by decide +kernel
theorem dX6_numberOfAll_116 : decode cX6_numberOfAll 116 = .ok (.ireturn, 1) := by decide +kernel
theorem dX6_numberOfAll_117 : decode cX6_numberOfAll 117 = .ok (.aload_n 0, 1) := by decide +kernel
theorem dX6_numberOfAll_118 : decode cX6_numberOfAll 118 = .ok (.getfield 12, 3) := by decide +kernel
theorem dX6_numberOfAll_121 : decode cX6_numberOfAll 121 = .ok (.getfield 111, 3) := by decide +kernel
theorem dX6_numberOfAll_124 : decode cX6_numberOfAll 124 = .ok (.invokevirtual 286, 3) := by decide +kernel
theorem dX6_numberOfAll_127 : decode cX6_numberOfAll 127 = .ok (.ireturn, 1) := by decide +kernel
theorem dX6_numberOfAll_128 : decode cX6_numberOfAll 128 = .ok (.aload_n 0, 1) := by decide +kernel
theorem dX6_numberOfAll_129 : decode cX6_numberOfAll 129 = .ok (.getfield 12, 3) := by decide +kernel
theorem dX6_numberOfAll_132 : decode cX6_numberOfAll 132 = .ok (.getfield 111, 3) := by decide +kernel
theorem dX6_numberOfAll_135 : decode cX6_numberOfAll 135 = .ok (.invokevirtual 114, 3) := by decide +kernel
theorem dX6_numberOfAll_138 : decode cX6_numberOfAll 138 = .ok (.ireturn, 1) := by decide +kernel
theorem dX6_numberOfAll_139 : decode cX6_numberOfAll 139 = .ok (.aload_n 0, 1) := by decide +kernel
theorem dX6_numberOfAll_140 : decode cX6_numberOfAll 140 = .ok (.getfield 12, 3) := by decide +kernel
theorem dX6_numberOfAll_143 : decode cX6_numberOfAll 143 = .ok (.invokevirtual 289, 3) := by decide +kernel
theorem dX6_numberOfAll_146 : decode cX6_numberOfAll 146 = .ok (.ireturn, 1) := by decide +kernel
theorem dX6_numberOfAll_147 : decode cX6_numberOfAll 147 = .ok (.aload_n 0, 1) := by decide +kernel
theorem dX6_numberOfAll_148 : decode cX6_numberOfAll 148 = .ok (.getfield 12, 3) := by decide +kernel
theorem dX6_numberOfAll_151 : decode cX6_numberOfAll 151 = .ok (.getfield 111, 3) := by decide +kernel
theorem dX6_numberOfAll_154 : decode cX6_numberOfAll 154 = .ok (.invokevirtual 114, 3) := by decide +kernel
theorem dX6_numberOfAll_157 : decode cX6_numberOfAll 157 = .ok (.ifCond .ne 7, 3) := by decide +kernel
theorem dX6_numberOfAll_160 : decode cX6_numberOfAll 160 = .ok (.iconst 1, 1) := by decide +kernel
theorem dX6_numberOfAll_161 : decode cX6_numberOfAll 161 = .ok (.goto 4, 3) := by decide +kernel
theorem dX6_numberOfAll_164 : decode cX6_numberOfAll 164 = .ok (.iconst 0, 1) := by decide +kernel
theorem dX6_numberOfAll_165 : decode cX6_numberOfAll 165 = .ok (.ireturn, 1) := by decide +kernel
theorem dX6_numberOfAll_166 : decode cX6_numberOfAll 166 = .ok (.aload_n 0, 1) := by decide +kernel
theorem dX6_numberOfAll_167 : decode cX6_numberOfAll 167 = .ok (.getfield 12, 3) := by decide +kernel
theorem dX6_numberOfAll_170 : decode cX6_numberOfAll 170 = .ok (.getfield 265, 3) := by decide +kernel
theorem dX6_numberOfAll_173 : decode cX6_numberOfAll 173 = .ok (.ireturn, 1) := by decide +kernel
theorem dX6_numberOfAll_174 : decode cX6_numberOfAll 174 = .ok (.aload_n 0, 1) := by decide +kernel
theorem dX6_numberOfAll_175 : decode cX6_numberOfAll 175 = .ok (.getfield 12, 3) := by decide +kernel
theorem dX6_numberOfAll_178 : decode cX6_numberOfAll 178 = .ok (.getfield 111, 3) := by decide +kernel
theorem dX6_numberOfAll_181 : decode cX6_numberOfAll 181 = .ok (.getfield 268, 3) := by decide +kernel
theorem dX6_numberOfAll_184 : decode cX6_numberOfAll 184 = .ok (.ireturn, 1) := by decide +kernel
theorem dX6_numberOfAll_185 : decode cX6_numberOfAll 185 = .ok (.aload_n 0, 1) := by decide +kernel
theorem dX6_numberOfAll_186 : decode cX6_numberOfAll 186 = .ok (.getfield 12, 3) := by decide +kernel
theorem dX6_numberOfAll_189 : decode cX6_numberOfAll 189 = .ok (.getfield 292, 3) := by decide +kernel
theorem dX6_numberOfAll_192 : decode cX6_numberOfAll 192 = .ok (.ireturn, 1) := by decide +kernel
theorem dX6_numberOfAll_193 : decode cX6_numberOfAll 193 = .ok (.aload_n 0, 1) := by decide +kernel
theorem dX6_numberOfAll_194 : decode cX6_numberOfAll 194 = .ok (.getfield 12, 3) := by decide +kernel
theorem dX6_numberOfAll_197 : decode cX6_numberOfAll 197 = .ok (.getfield 295, 3) := by decide +kernel
theorem dX6_numberOfAll_200 : decode cX6_numberOfAll 200 = .ok (.ireturn, 1) := by decide +kernel
theorem dX6_numberOfAll_201 : decode cX6_numberOfAll 201 = .ok (.aload_n 0, 1) := by decide +kernel
theorem dX6_numberOfAll_202 : decode cX6_numberOfAll 202 = .ok (.getfield 12, 3) := by decide +kernel
theorem dX6_numberOfAll_205 : decode cX6_numberOfAll 205 = .ok (.getfield 298, 3) := by decide +kernel
theorem dX6_numberOfAll_208 : decode cX6_numberOfAll 208 = .ok (.ireturn, 1) := by decide +kernel
theorem dX6_numberOfAll_209 : decode cX6_numberOfAll 209 = .ok (.aload_n 0, 1) := by decide +kernel
theorem dX6_numberOfAll_210 : decode cX6_numberOfAll 210 = .ok (.getfield 12, 3) := by decide +kernel
theorem dX6_numberOfAll_213 : decode cX6_numberOfAll 213 = .ok (.getfield 301, 3) := by decide +kernel
theorem dX6_numberOfAll_216 : decode cX6_numberOfAll 216 = .ok (.ireturn, 1) := by decide +kernel
theorem dX6_numberOfAll_217 : decode cX6_numberOfAll 217 = .ok (.aload_n 0, 1) := by decide +kernel
theorem dX6_numberOfAll_218 : decode cX6_numberOfAll 218 = .ok (.getfield 12, 3) := by decide +kernel
theorem dX6_numberOfAll_221 : decode cX6_numberOfAll 221 = .ok (.getfield 304, 3) := by decide +kernel
theorem dX6_numberOfAll_224 : decode cX6_numberOfAll 224 = .ok (.ireturn, 1) := by decide +kernel
theorem dX6_numberOfAll_225 : decode cX6_numberOfAll 225 = .ok (.aload_n 0, 1) := by decide +kernel
theorem dX6_numberOfAll_226 : decode cX6_numberOfAll 226 = .ok (.getfield 12, 3) := by decide +kernel
theorem dX6_numberOfAll_229 : decode cX6_numberOfAll 229 = .ok (.iload_n 1, 1) := by decide +kernel
theorem dX6_numberOfAll_230 : decode cX6_numberOfAll 230 = .ok (.bipush 14, 2) := by decide +kernel
theorem dX6_numberOfAll_232 : decode cX6_numberOfAll 232 = .ok (.isub, 1) := by decide +kernel
theorem dX6_numberOfAll_233 : decode cX6_numberOfAll 233 = .ok (.invokevirtual 307, 3) := by decide +kernel
theorem dX6_numberOfAll_236 : decode cX6_numberOfAll 236 = .ok (.ireturn, 1) := by decide +kernel
theorem dX6_numberOfAll_237 : decode cX6_numberOfAll 237 = .ok (.aload_n 0, 1) := by decide +kernel
theorem dX6_numberOfAll_238 : decode cX6_numberOfAll 238 = .ok (.getfield 19, 3) := by decide +kernel
theorem dX6_numberOfAll_241 : decode cX6_numberOfAll 241 = .ok (.getfield 180, 3) := by decide +kernel
theorem dX6_numberOfAll_244 : decode cX6_numberOfAll 244 = .ok (.ireturn, 1) := by decide +kernel
theorem dX6_doPart_0 : decode cX6_doPart 0 = .ok (.aload_n 0, 1) := by decide +kernel
theorem dX6_doPart_1 : decode cX6_doPart 1 = .ok (.getfield 33, 3) := by decide +kernel
theorem dX6_doPart_4 : decode cX6_doPart 4 = .ok (.iload_n 1, 1) := by decide +kernel
theorem dX6_doPart_5 : decode cX6_doPart 5 = .ok (.iload_n 2, 1) := by decide +kernel
theorem dX6_doPart_6 : decode cX6_doPart 6 = .ok (.invokevirtual 310, 3) := by decide +kernel
theorem dX6_doPart_9 : decode cX6_doPart 9 = .ok (.astore_n 3, 1) := by decide +kernel
theorem dX6_doPart_10 : decode cX6_doPart 10 = .ok (.aload_n 3, 1) := by decide +kernel
theorem dX6_doPart_11 : decode cX6_doPart 11 = .ok (.ifnonnull 5, 3) := by decide +kernel
theorem dX6_doPart_14 : decode cX6_doPart 14 = .ok (.iconst 0, 1) := by decide +kernel
theorem dX6_doPart_15 : decode cX6_doPart 15 = .ok (.ireturn, 1) := by decide +kernel
theorem dX6_doPart_16 : decode cX6_doPart 16 = .ok (.iload_n 1, 1) := by decide +kernel
theorem dX6_doPart_17 : decode cX6_doPart 17 = .ok (.aload_n 3, 1) := by decide +kernel
theorem dX6_doPart_18 : decode cX6_doPart 18 = .ok (.getfield 314, 3) := by decide +kernel
theorem dX6_doPart_21 : decode cX6_doPart 21 = .ok (.invokevirtual 320, 3) := by decide +kernel
theorem dX6_doPart_24 : decode cX6_doPart 24 = .ok (.iadd, 1) := by decide +kernel
theorem dX6_doPart_25 : decode cX6_doPart 25 = .ok (.istore 4, 2) := by decide +kernel
theorem dX6_doPart_27 : decode cX6_doPart 27 = .ok (.aload_n 3, 1) := by decide +kernel
theorem dX6_doPart_28 : decode cX6_doPart 28 = .ok (.getstatic 324, 3) := by decide +kernel
theorem dX6_doPart_31 : decode cX6_doPart 31 = .ok (.if_acmp .ne 11, 3) := by decide +kernel
theorem dX6_doPart_34 : decode cX6_doPart 34 = .ok (.aload_n 0, 1) := by decide +kernel
theorem dX6_doPart_35 : decode cX6_doPart 35 = .ok (.iload 4, 2) := by decide +kernel
theorem dX6_doPart_37 : decode cX6_doPart 37 = .ok (.iload_n 2, 1) := by decide +kernel
theorem dX6_doPart_38 : decode cX6_doPart 38 = .ok (.invokevirtual 328, 3) := by decide +kernel
theorem dX6_doPart_41 : decode cX6_doPart 41 = .ok (.ireturn, 1) := by decide +kernel
theorem dX6_doPart_42 : decode cX6_doPart 42 = .ok (.aload_n 3, 1) := by decide +kernel
theorem dX6_doPart_43 : decode cX6_doPart 43 = .ok (.getstatic 331, 3) := by decide +kernel
theorem dX6_doPart_46 : decode cX6_doPart 46 = .ok (.if_acmp .ne 18, 3) := by decide +kernel
theorem dX6_doPart_49 : decode cX6_doPart 49 = .ok (.aload_n 0, 1) := by decide +kernel
theorem dX6_doPart_50 : decode cX6_doPart 50 = .ok (.aload_n 0, 1) := by decide +kernel
theorem dX6_doPart_51 : decode cX6_doPart 51 = .ok (.getfield 33, 3) := by decide +kernel
theorem dX6_doPart_54 : decode cX6_doPart 54 = .ok (.iload 4, 2) := by decide +kernel
theorem dX6_doPart_56 : decode cX6_doPart 56 = .ok (.iload_n 2, 1) := by decide +kernel
theorem dX6_doPart_57 : decode cX6_doPart 57 = .ok (.invokevirtual 334, 3) := by decide +kernel
theorem dX6_doPart_60 : decode cX6_doPart 60 = .ok (.invokevirtual 337, 3) := by decide +kernel
theorem dX6_doPart_63 : decode cX6_doPart 63 = .ok (.ireturn, 1) := by decide +kernel
theorem dX6_doPart_64 : decode cX6_doPart 64 = .ok (.aload_n 3, 1) := by decide +kernel
theorem dX6_doPart_65 : decode cX6_doPart 65 = .ok (.getstatic 340, 3) := by decide +kernel
theorem dX6_doPart_68 : decode cX6_doPart 68 = .ok (.if_acmp .ne 8, 3) := by decide +kernel
theorem dX6_doPart_71 : decode cX6_doPart 71 = .ok (.aload_n 0, 1) := by decide +kernel
theorem dX6_doPart_72 : decode cX6_doPart 72 = .ok (.invokevirtual 343, 3) := by decide +kernel
theorem dX6_doPart_75 : decode cX6_doPart 75 = .ok (.ireturn, 1) := by decide +kernel
theorem dX6_doPart_76 : decode cX6_doPart 76 = .ok (.aload_n 3, 1) := by decide +kernel
theorem dX6_doPart_77 : decode cX6_doPart 77 = .ok (.getstatic 346, 3) := by decide +kernel
theorem dX6_doPart_80 : decode cX6_doPart 80 = .ok (.if_acmp .ne 24, 3) := by decide +kernel
theorem dX6_doPart_83 : decode cX6_doPart 83 = .ok (.aload_n 0, 1) := by decide +kernel
theorem dX6_doPart_84 : decode cX6_doPart 84 = .ok (.getfield 12, 3) := by decide +kernel
theorem dX6_doPart_87 : decode cX6_doPart 87 = .ok (.aload_n 0, 1) := by decide +kernel
theorem dX6_doPart_88 : decode cX6_doPart 88 = .ok (.getfield 33, 3) := by decide +kernel
theorem dX6_doPart_91 : decode cX6_doPart 91 = .ok (.iload 4, 2) := by decide +kernel
theorem dX6_doPart_93 : decode cX6_doPart 93 = .ok (.iload_n 2, 1) := by decide +kernel
theorem dX6_doPart_94 : decode cX6_doPart 94 = .ok (.invokevirtual 334, 3) := by decide +kernel
theorem dX6_doPart_97 : decode cX6_doPart 97 = .ok (.invokevirtual 76, 3) := by decide +kernel
theorem dX6_doPart_100 : decode cX6_doPart 100 = .ok (.pop, 1) := by decide +kernel
theorem dX6_doPart_101 : decode cX6_doPart 101 = .ok (.goto 30, 3) := by decide +kernel
theorem dX6_doPart_104 : decode cX6_doPart 104 = .ok (.aload_n 0, 1) := by decide +kernel
theorem dX6_doPart_105 : decode cX6_doPart 105 = .ok (.getfield 12, 3) := by decide +kernel
theorem dX6_doPart_108 : decode cX6_doPart 108 = .ok (.aload_n 0, 1) := by decide +kernel
theorem dX6_doPart_109 : decode cX6_doPart 109 = .ok (.getfield 33, 3) := by decide +kernel
theorem dX6_doPart_112 : decode cX6_doPart 112 = .ok (.iload 4, 2) := by decide +kernel
theorem dX6_doPart_114 : decode cX6_doPart 114 = .ok (.invokevirtual 349, 3) := by decide +kernel
theorem dX6_doPart_117 : decode cX6_doPart 117 = .ok (.aload_n 0, 1) := by decide +kernel
theorem dX6_doPart_118 : decode cX6_doPart 118 = .ok (.getfield 33, 3) := by decide +kernel
theorem dX6_doPart_121 : decode cX6_doPart 121 = .ok (.iload 4, 2) := by decide +kernel
theorem dX6_doPart_123 : decode cX6_doPart 123 = .ok (.iconst 1, 1) := by decide +kernel
theorem dX6_doPart_124 : decode cX6_doPart 124 = .ok (.iadd, 1) := by decide +kernel
theorem dX6_doPart_125 : decode cX6_doPart 125 = .ok (.invokevirtual 349, 3) := by decide +kernel
theorem dX6_doPart_128 : decode cX6_doPart 128 = .ok (.invokevirtual 119, 3) := by decide +kernel
theorem dX6_doPart_131 : decode cX6_doPart 131 = .ok (.iconst 0, 1) := by decide +kernel
theorem dX6_doPart_132 : decode cX6_doPart 132 = .ok (.ireturn, 1) := by decide +kernel
theorem dX6_setLetters_0 : decode cX6_setLetters 0 = .ok (.iload_n 1, 1) := by decide +kernel
theorem dX6_setLetters_1 : decode cX6_setLetters 1 = .ok (.istore_n 3, 1) := by decide +kernel
theorem dX6_setLetters_2 : decode cX6_setLetters 2 = .ok (.iload_n 3, 1) := by decide +kernel
theorem dX6_setLetters_3 : decode cX6_setLetters 3 = .ok (.iload_n 2, 1) := by decide +kernel
theorem dX6_setLetters_4 : decode cX6_setLetters 4 = .ok (.if_icmp .ge 48, 3) := by decide +kernel
theorem dX6_setLetters_7 : decode cX6_setLetters 7 = .ok (.aload_n 0, 1) := by decide +kernel
theorem dX6_setLetters_8 : decode cX6_setLetters 8 = .ok (.getfield 33, 3) := by decide +kernel
theorem dX6_setLetters_11 : decode cX6_setLetters 11 = .ok (.iload_n 3, 1) := by decide +kernel
theorem dX6_setLetters_12 : decode cX6_setLetters 12 = .ok (.invokevirtual 349, 3) := by decide +kernel
theorem dX6_setLetters_15 : decode cX6_setLetters 15 = .ok (.istore 4, 2) := by decide +kernel
theorem dX6_setLetters_17 : decode cX6_setLetters 17 = .ok (.aload_n 0, 1) := by decide +kernel
theorem dX6_setLetters_18 : decode cX6_setLetters 18 = .ok (.getfield 12, 3) := by decide +kernel
theorem dX6_setLetters_21 : decode cX6_setLetters 21 = .ok (.iload 4, 2) := by decide +kernel
theorem dX6_setLetters_23 : decode cX6_setLetters 23 = .ok (.invokevirtual 55, 3) := by decide +kernel
theorem dX6_setLetters_26 : decode cX6_setLetters 26 = .ok (.istore 5, 2) := by decide +kernel
theorem dX6_setLetters_28 : decode cX6_setLetters 28 = .ok (.iload 5, 2) := by decide +kernel
theorem dX6_setLetters_30 : decode cX6_setLetters 30 = .ok (.ifCond .eq 6, 3) := by decide +kernel
theorem dX6_setLetters_33 : decode cX6_setLetters 33 = .ok (.iload 5, 2) := by decide +kernel
theorem dX6_setLetters_35 : decode cX6_setLetters 35 = .ok (.ireturn, 1) := by decide +kernel
theorem dX6_setLetters_36 : decode cX6_setLetters 36 = .ok (.aload_n 0, 1) := by decide +kernel
theorem dX6_setLetters_37 : decode cX6_setLetters 37 = .ok (.getfield 12, 3) := by decide +kernel
theorem dX6_setLetters_40 : decode cX6_setLetters 40 = .ok (.iload 4, 2) := by decide +kernel
theorem dX6_setLetters_42 : decode cX6_setLetters 42 = .ok (.invokevirtual 68, 3) := by decide +kernel
theorem dX6_setLetters_45 : decode cX6_setLetters 45 = .ok (.pop, 1) := by decide +kernel
theorem dX6_setLetters_46 : decode cX6_setLetters 46 = .ok (.iinc 3 1, 3) := by decide +kernel
theorem dX6_setLetters_49 : decode cX6_setLetters 49 = .ok (.goto (-47), 3) := by decide +kernel
theorem dX6_setLetters_52 : decode cX6_setLetters 52 = .ok (.iconst 0, 1) := by decide +kernel
theorem dX6_setLetters_53 : decode cX6_setLetters 53 = .ok (.ireturn, 1) := by decide +kernel
theorem dX6_correctIfPossible_0 : decode cX6_correctIfPossible 0 = .ok (.aload_n 0, 1) := by decide +kernel
theorem dX6_correctIfPossible_1 : decode cX6_correctIfPossible 1 = .ok (.getfield 12, 3) := by decide +kernel
theorem dX6_correctIfPossible_4 : decode cX6_correctIfPossible 4 = .ok (.getfield 79, 3) := by decide +kernel
theorem dX6_correctIfPossible_7 : decode cX6_correctIfPossible 7 = .ok (.iload_n 1, 1) := by decide +kernel
theorem dX6_correctIfPossible_8 : decode cX6_correctIfPossible 8 = .ok (.invokevirtual 83, 3) := by decide +kernel
theorem dX6_correctIfPossible_11 : decode cX6_correctIfPossible 11 = .ok (.ifCond .ne 6, 3) := by decide +kernel
theorem dX6_correctIfPossible_14 : decode cX6_correctIfPossible 14 = .ok (.bipush 7, 2) := by decide +kernel
theorem dX6_correctIfPossible_16 : decode cX6_correctIfPossible 16 = .ok (.ireturn, 1) := by decide +kernel
theorem dX6_correctIfPossible_17 : decode cX6_correctIfPossible 17 = .ok (.aload_n 0, 1) := by decide +kernel
theorem dX6_correctIfPossible_18 : decode cX6_correctIfPossible 18 = .ok (.getfield 12, 3) := by decide +kernel
theorem dX6_correctIfPossible_21 : decode cX6_correctIfPossible 21 = .ok (.iload_n 1, 1) := by decide +kernel
theorem dX6_correctIfPossible_22 : decode cX6_correctIfPossible 22 = .ok (.invokevirtual 90, 3) := by decide +kernel
theorem dX6_correctIfPossible_25 : decode cX6_correctIfPossible 25 = .ok (.istore_n 2, 1) := by decide +kernel
theorem dX6_correctIfPossible_26 : decode cX6_correctIfPossible 26 = .ok (.iload_n 2, 1) := by decide +kernel
theorem dX6_correctIfPossible_27 : decode cX6_correctIfPossible 27 = .ok (.ifCond .ne 11, 3) := by decide +kernel
theorem dX6_correctIfPossible_30 : decode cX6_correctIfPossible 30 = .ok (.aload_n 0, 1) := by decide +kernel
theorem dX6_correctIfPossible_31 : decode cX6_correctIfPossible 31 = .ok (.getfield 12, 3) := by decide +kernel
theorem dX6_correctIfPossible_34 : decode cX6_correctIfPossible 34 = .ok (.iload_n 1, 1) := by decide +kernel
theorem dX6_correctIfPossible_35 : decode cX6_correctIfPossible 35 = .ok (.invokevirtual 95, 3) := by decide +kernel
theorem dX6_correctIfPossible_38 : decode cX6_correctIfPossible 38 = .ok (.iload_n 2, 1) := by decide +kernel
theorem dX6_correctIfPossible_39 : decode cX6_correctIfPossible 39 = .ok (.ireturn, 1) := by decide +kernel
theorem dX6_returnIfPossible_0 : decode cX6_returnIfPossible 0 = .ok (.aload_n 0, 1) := by decide +kernel
theorem dX6_returnIfPossible_1 : decode cX6_returnIfPossible 1 = .ok (.getfield 12, 3) := by decide +kernel
theorem dX6_returnIfPossible_4 : decode cX6_returnIfPossible 4 = .ok (.invokevirtual 103, 3) := by decide +kernel
theorem dX6_returnIfPossible_7 : decode cX6_returnIfPossible 7 = .ok (.istore_n 1, 1) := by decide +kernel
theorem dX6_returnIfPossible_8 : decode cX6_returnIfPossible 8 = .ok (.iload_n 1, 1) := by decide +kernel
theorem dX6_returnIfPossible_9 : decode cX6_returnIfPossible 9 = .ok (.ifCond .ne 10, 3) := by decide +kernel
theorem dX6_returnIfPossible_12 : decode cX6_returnIfPossible 12 = .ok (.aload_n 0, 1) := by decide +kernel
theorem dX6_returnIfPossible_13 : decode cX6_returnIfPossible 13 = .ok (.getfield 12, 3) := by decide +kernel
theorem dX6_returnIfPossible_16 : decode cX6_returnIfPossible 16 = .ok (.invokevirtual 108, 3) := by decide +kernel
theorem dX6_returnIfPossible_19 : decode cX6_returnIfPossible 19 = .ok (.iload_n 1, 1) := by decide +kernel
theorem dX6_returnIfPossible_20 : decode cX6_returnIfPossible 20 = .ok (.ireturn, 1) := by decide +kernel
theorem dX6_mixed_0 : decode cX6_mixed 0 = .ok (.ldc2_w 350, 3) := by decide +kernel
theorem dX6_mixed_3 : decode cX6_mixed 3 = .ok (.lload_n 0, 1) := by decide +kernel
theorem dX6_mixed_4 : decode cX6_mixed 4 = .ok (.lmul, 1) := by decide +kernel
theorem dX6_mixed_5 : decode cX6_mixed 5 = .ok (.lload_n 2, 1) := by decide +kernel
theorem dX6_mixed_6 : decode cX6_mixed 6 = .ok (.ladd, 1) := by decide +kernel
theorem dX6_mixed_7 : decode cX6_mixed 7 = .ok (.lreturn, 1) := by decide +kernel
theorem dX6_mixedWithBox_0 : decode cX6_mixedWithBox 0 = .ok (.lload_n 1, 1) := by decide +kernel
theorem dX6_mixedWithBox_1 : decode cX6_mixedWithBox 1 = .ok (.lstore 4, 2) := by decide +kernel
theorem dX6_mixedWithBox_3 : decode cX6_mixedWithBox 3 = .ok (.iconst 0, 1) := by decide +kernel
theorem dX6_mixedWithBox_4 : decode cX6_mixedWithBox 4 = .ok (.istore 6, 2) := by decide +kernel
theorem dX6_mixedWithBox_6 : decode cX6_mixedWithBox 6 = .ok (.iload 6, 2) := by decide +kernel
theorem dX6_mixedWithBox_8 : decode cX6_mixedWithBox 8 = .ok (.bipush 7, 2) := by decide +kernel
theorem dX6_mixedWithBox_10 : decode cX6_mixedWithBox 10 = .ok (.if_icmp .ge 24, 3) := by decide +kernel
theorem dX6_mixedWithBox_13 : decode cX6_mixedWithBox 13 = .ok (.lload 4, 2) := by decide +kernel
theorem dX6_mixedWithBox_15 : decode cX6_mixedWithBox 15 = .ok (.aload_n 0, 1) := by decide +kernel
theorem dX6_mixedWithBox_16 : decode cX6_mixedWithBox 16 = .ok (.iload_n 3, 1) := by decide +kernel
theorem dX6_mixedWithBox_17 : decode cX6_mixedWithBox 17 = .ok (.iload 6, 2) := by decide +kernel
theorem dX6_mixedWithBox_19 : decode cX6_mixedWithBox 19 = .ok (.invokevirtual 196, 3) := by decide +kernel
theorem dX6_mixedWithBox_22 : decode cX6_mixedWithBox 22 = .ok (.i2l, 1) := by decide +kernel
theorem dX6_mixedWithBox_23 : decode cX6_mixedWithBox 23 = .ok (.invokestatic 227, 3) := by decide +kernel
theorem dX6_mixedWithBox_26 : decode cX6_mixedWithBox 26 = .ok (.lstore 4, 2) := by decide +kernel
theorem dX6_mixedWithBox_28 : decode cX6_mixedWithBox 28 = .ok (.iinc 6 1, 3) := by decide +kernel
theorem dX6_mixedWithBox_31 : decode cX6_mixedWithBox 31 = .ok (.goto (-25), 3) := by decide +kernel
theorem dX6_mixedWithBox_34 : decode cX6_mixedWithBox 34 = .ok (.lload 4, 2) := by decide +kernel
theorem dX6_mixedWithBox_36 : decode cX6_mixedWithBox 36 = .ok (.aload_n 0, 1) := by decide +kernel
theorem dX6_mixedWithBox_37 : decode cX6_mixedWithBox 37 = .ok (.getfield 12, 3) := by decide +kernel
theorem dX6_mixedWithBox_40 : decode cX6_mixedWithBox 40 = .ok (.iload_n 3, 1) := by decide +kernel
theorem dX6_mixedWithBox_41 : decode cX6_mixedWithBox 41 = .ok (.invokevirtual 55, 3) := by decide +kernel
theorem dX6_mixedWithBox_44 : decode cX6_mixedWithBox 44 = .ok (.i2l, 1) := by decide +kernel
theorem dX6_mixedWithBox_45 : decode cX6_mixedWithBox 45 = .ok (.invokestatic 227, 3) := by decide +kernel
theorem dX6_mixedWithBox_48 : decode cX6_mixedWithBox 48 = .ok (.lstore 4, 2) := by decide +kernel
theorem dX6_mixedWithBox_50 : decode cX6_mixedWithBox 50 = .ok (.lload 4, 2) := by decide +kernel
theorem dX6_mixedWithBox_52 : decode cX6_mixedWithBox 52 = .ok (.aload_n 0, 1) := by decide +kernel
theorem dX6_mixedWithBox_53 : decode cX6_mixedWithBox 53 = .ok (.getfield 12, 3) := by decide +kernel
theorem dX6_mixedWithBox_56 : decode cX6_mixedWithBox 56 = .ok (.iload_n 3, 1) := by decide +kernel
theorem dX6_mixedWithBox_57 : decode cX6_mixedWithBox 57 = .ok (.iconst 3, 1) := by decide +kernel
theorem dX6_mixedWithBox_58 : decode cX6_mixedWithBox 58 = .ok (.invokevirtual 216, 3) := by decide +kernel
theorem dX6_mixedWithBox_61 : decode cX6_mixedWithBox 61 = .ok (.i2l, 1) := by decide +kernel
theorem dX6_mixedWithBox_62 : decode cX6_mixedWithBox 62 = .ok (.invokestatic 227, 3) := by decide +kernel
theorem dX6_mixedWithBox_65 : decode cX6_mixedWithBox 65 = .ok (.lstore 4, 2) := by decide +kernel
theorem dX6_mixedWithBox_67 : decode cX6_mixedWithBox 67 = .ok (.aload_n 0, 1) := by decide +kernel
theorem dX6_mixedWithBox_68 : decode cX6_mixedWithBox 68 = .ok (.getfield 12, 3) := by decide +kernel
theorem dX6_mixedWithBox_71 : decode cX6_mixedWithBox 71 = .ok (.getfield 111, 3) := by decide +kernel
theorem dX6_mixedWithBox_74 : decode cX6_mixedWithBox 74 = .ok (.iload_n 3, 1) := by decide +kernel
theorem dX6_mixedWithBox_75 : decode cX6_mixedWithBox 75 = .ok (.invokevirtual 256, 3) := by decide +kernel
theorem dX6_mixedWithBox_78 : decode cX6_mixedWithBox 78 = .ok (.istore 6, 2) := by decide +kernel
theorem dX6_mixedWithBox_80 : decode cX6_mixedWithBox 80 = .ok (.iconst 0, 1) := by decide +kernel
theorem dX6_mixedWithBox_81 : decode cX6_mixedWithBox 81 = .ok (.istore 7, 2) := by decide +kernel
theorem dX6_mixedWithBox_83 : decode cX6_mixedWithBox 83 = .ok (.iload 7, 2) := by decide +kernel
theorem dX6_mixedWithBox_85 : decode cX6_mixedWithBox 85 = .ok (.iload 6, 2) := by decide +kernel
theorem dX6_mixedWithBox_87 : decode cX6_mixedWithBox 87 = .ok (.if_icmp .ge 30, 3) := by decide +kernel
theorem dX6_mixedWithBox_90 : decode cX6_mixedWithBox 90 = .ok (.lload 4, 2) := by decide +kernel
theorem dX6_mixedWithBox_92 : decode cX6_mixedWithBox 92 = .ok (.aload_n 0, 1) := by decide +kernel
theorem dX6_mixedWithBox_93 : decode cX6_mixedWithBox 93 = .ok (.getfield 12, 3) := by decide +kernel
theorem dX6_mixedWithBox_96 : decode cX6_mixedWithBox 96 = .ok (.getfield 111, 3) := by decide +kernel
theorem dX6_mixedWithBox_99 : decode cX6_mixedWithBox 99 = .ok (.iload_n 3, 1) := by decide +kernel
theorem dX6_mixedWithBox_100 : decode cX6_mixedWithBox 100 = .ok (.iload 7, 2) := by decide +kernel
theorem dX6_mixedWithBox_102 : decode cX6_mixedWithBox 102 = .ok (.invokevirtual 201, 3) := by decide +kernel
theorem dX6_mixedWithBox_105 : decode cX6_mixedWithBox 105 = .ok (.i2l, 1) := by decide +kernel
theorem dX6_mixedWithBox_106 : decode cX6_mixedWithBox 106 = .ok (.invokestatic 227, 3) := by decide +kernel
theorem dX6_mixedWithBox_109 : decode cX6_mixedWithBox 109 = .ok (.lstore 4, 2) := by decide +kernel
theorem dX6_mixedWithBox_111 : decode cX6_mixedWithBox 111 = .ok (.iinc 7 1, 3) := by decide +kernel
theorem dX6_mixedWithBox_114 : decode cX6_mixedWithBox 114 = .ok (.goto (-31), 3) := by decide +kernel
theorem dX6_mixedWithBox_117 : decode cX6_mixedWithBox 117 = .ok (.lload 4, 2) := by decide +kernel
theorem dX6_mixedWithBox_119 : decode cX6_mixedWithBox 119 = .ok (.lreturn, 1) := by decide +kernel
theorem dX6_mixedWithLine_0 : decode cX6_mixedWithLine 0 = .ok (.lload_n 1, 1) := by decide +kernel
theorem dX6_mixedWithLine_1 : decode cX6_mixedWithLine 1 = .ok (.lstore_n 3, 1) := by decide +kernel
theorem dX6_mixedWithLine_2 : decode cX6_mixedWithLine 2 = .ok (.iconst 0, 1) := by decide +kernel
theorem dX6_mixedWithLine_3 : decode cX6_mixedWithLine 3 = .ok (.istore 5, 2) := by decide +kernel
theorem dX6_mixedWithLine_5 : decode cX6_mixedWithLine 5 = .ok (.iload 5, 2) := by decide +kernel
theorem dX6_mixedWithLine_7 : decode cX6_mixedWithLine 7 = .ok (.aload_n 0, 1) := by decide +kernel
theorem dX6_mixedWithLine_8 : decode cX6_mixedWithLine 8 = .ok (.getfield 12, 3) := by decide +kernel
theorem dX6_mixedWithLine_11 : decode cX6_mixedWithLine 11 = .ok (.getfield 79, 3) := by decide +kernel
theorem dX6_mixedWithLine_14 : decode cX6_mixedWithLine 14 = .ok (.getfield 191, 3) := by decide +kernel
theorem dX6_mixedWithLine_17 : decode cX6_mixedWithLine 17 = .ok (.if_icmp .ge 38, 3) := by decide +kernel
theorem dX6_mixedWithLine_20 : decode cX6_mixedWithLine 20 = .ok (.iconst 0, 1) := by decide +kernel
theorem dX6_mixedWithLine_21 : decode cX6_mixedWithLine 21 = .ok (.istore 6, 2) := by decide +kernel
theorem dX6_mixedWithLine_23 : decode cX6_mixedWithLine 23 = .ok (.iload 6, 2) := by decide +kernel
theorem dX6_mixedWithLine_25 : decode cX6_mixedWithLine 25 = .ok (.iconst 4, 1) := by decide +kernel
theorem dX6_mixedWithLine_26 : decode cX6_mixedWithLine 26 = .ok (.if_icmp .ge 23, 3) := by decide +kernel
theorem dX6_mixedWithLine_29 : decode cX6_mixedWithLine 29 = .ok (.lload_n 3, 1) := by decide +kernel
theorem dX6_mixedWithLine_30 : decode cX6_mixedWithLine 30 = .ok (.aload_n 0, 1) := by decide +kernel
theorem dX6_mixedWithLine_31 : decode cX6_mixedWithLine 31 = .ok (.iload 5, 2) := by decide +kernel
theorem dX6_mixedWithLine_33 : decode cX6_mixedWithLine 33 = .ok (.iload 6, 2) := by decide +kernel
theorem dX6_mixedWithLine_35 : decode cX6_mixedWithLine 35 = .ok (.invokevirtual 206, 3) := by decide +kernel
theorem dX6_mixedWithLine_38 : decode cX6_mixedWithLine 38 = .ok (.i2l, 1) := by decide +kernel
theorem dX6_mixedWithLine_39 : decode cX6_mixedWithLine 39 = .ok (.invokestatic 227, 3) := by decide +kernel
theorem dX6_mixedWithLine_42 : decode cX6_mixedWithLine 42 = .ok (.lstore_n 3, 1) := by decide +kernel
theorem dX6_mixedWithLine_43 : decode cX6_mixedWithLine 43 = .ok (.iinc 6 1, 3) := by decide +kernel
theorem dX6_mixedWithLine_46 : decode cX6_mixedWithLine 46 = .ok (.goto (-23), 3) := by decide +kernel
theorem dX6_mixedWithLine_49 : decode cX6_mixedWithLine 49 = .ok (.iinc 5 1, 3) := by decide +kernel
theorem dX6_mixedWithLine_52 : decode cX6_mixedWithLine 52 = .ok (.goto (-47), 3) := by decide +kernel
theorem dX6_mixedWithLine_55 : decode cX6_mixedWithLine 55 = .ok (.aload_n 0, 1) := by decide +kernel
theorem dX6_mixedWithLine_56 : decode cX6_mixedWithLine 56 = .ok (.getfield 12, 3) := by decide +kernel
theorem dX6_mixedWithLine_59 : decode cX6_mixedWithLine 59 = .ok (.getfield 79, 3) := by decide +kernel
theorem dX6_mixedWithLine_62 : decode cX6_mixedWithLine 62 = .ok (.getfield 191, 3) := by decide +kernel
theorem dX6_mixedWithLine_65 : decode cX6_mixedWithLine 65 = .ok (.aload_n 0, 1) := by decide +kernel
theorem dX6_mixedWithLine_66 : decode cX6_mixedWithLine 66 = .ok (.getfield 12, 3) := by decide +kernel
theorem dX6_mixedWithLine_69 : decode cX6_mixedWithLine 69 = .ok (.getfield 79, 3) := by decide +kernel
theorem dX6_mixedWithLine_72 : decode cX6_mixedWithLine 72 = .ok (.invokevirtual 99, 3) := by decide +kernel
theorem dX6_mixedWithLine_75 : decode cX6_mixedWithLine 75 = .ok (.iadd, 1) := by decide +kernel
theorem dX6_mixedWithLine_76 : decode cX6_mixedWithLine 76 = .ok (.istore 5, 2) := by decide +kernel
theorem dX6_mixedWithLine_78 : decode cX6_mixedWithLine 78 = .ok (.iconst 0, 1) := by decide +kernel
theorem dX6_mixedWithLine_79 : decode cX6_mixedWithLine 79 = .ok (.istore 6, 2) := by decide +kernel
theorem dX6_mixedWithLine_81 : decode cX6_mixedWithLine 81 = .ok (.iload 6, 2) := by decide +kernel
theorem dX6_mixedWithLine_83 : decode cX6_mixedWithLine 83 = .ok (.iload 5, 2) := by decide +kernel
theorem dX6_mixedWithLine_85 : decode cX6_mixedWithLine 85 = .ok (.if_icmp .ge 27, 3) := by decide +kernel
theorem dX6_mixedWithLine_88 : decode cX6_mixedWithLine 88 = .ok (.lload_n 3, 1) := by decide +kernel
theorem dX6_mixedWithLine_89 : decode cX6_mixedWithLine 89 = .ok (.aload_n 0, 1) := by decide +kernel
theorem dX6_mixedWithLine_90 : decode cX6_mixedWithLine 90 = .ok (.getfield 12, 3) := by decide +kernel
theorem dX6_mixedWithLine_93 : decode cX6_mixedWithLine 93 = .ok (.getfield 79, 3) := by decide +kernel
theorem dX6_mixedWithLine_96 : decode cX6_mixedWithLine 96 = .ok (.iload 6, 2) := by decide +kernel
theorem dX6_mixedWithLine_98 : decode cX6_mixedWithLine 98 = .ok (.invokevirtual 177, 3) := by decide +kernel
theorem dX6_mixedWithLine_101 : decode cX6_mixedWithLine 101 = .ok (.i2l, 1) := by decide +kernel
theorem dX6_mixedWithLine_102 : decode cX6_mixedWithLine 102 = .ok (.invokestatic 227, 3) := by decide +kernel
theorem dX6_mixedWithLine_105 : decode cX6_mixedWithLine 105 = .ok (.lstore_n 3, 1) := by decide +kernel
theorem dX6_mixedWithLine_106 : decode cX6_mixedWithLine 106 = .ok (.iinc 6 1, 3) := by decide +kernel
theorem dX6_mixedWithLine_109 : decode cX6_mixedWithLine 109 = .ok (.goto (-28), 3) := by decide +kernel
theorem dX6_mixedWithLine_112 : decode cX6_mixedWithLine 112 = .ok (.lload_n 3, 1) := by decide +kernel
theorem dX6_mixedWithLine_113 : decode cX6_mixedWithLine 113 = .ok (.lreturn, 1) := by decide +kernel
theorem dX6_bitsOf_0 : decode cX6_bitsOf 0 = .ok (.dload_n 0, 1) := by decide +kernel
theorem dX6_bitsOf_1 : decode cX6_bitsOf 1 = .ok (.dconst 0, 1) := by decide +kernel
theorem dX6_bitsOf_2 : decode cX6_bitsOf 2 = .ok (.dcmp .g, 1) := by decide +kernel
theorem dX6_bitsOf_3 : decode cX6_bitsOf 3 = .ok (.ifCond .gt 5, 3) := by decide +kernel
theorem dX6_bitsOf_6 : decode cX6_bitsOf 6 = .ok (.lconst 0, 1) := by decide +kernel
theorem dX6_bitsOf_7 : decode cX6_bitsOf 7 = .ok (.lreturn, 1) := by decide +kernel
theorem dX6_bitsOf_8 : decode cX6_bitsOf 8 = .ok (.dload_n 0, 1) := by decide +kernel
theorem dX6_bitsOf_9 : decode cX6_bitsOf 9 = .ok (.dstore_n 2, 1) := by decide +kernel
theorem dX6_bitsOf_10 : decode cX6_bitsOf 10 = .ok (.ldc2_w 352, 3) := by decide +kernel
theorem dX6_bitsOf_13 : decode cX6_bitsOf 13 = .ok (.lstore 4, 2) := by decide +kernel
theorem dX6_bitsOf_15 : decode cX6_bitsOf 15 = .ok (.iconst 0, 1) := by decide +kernel
theorem dX6_bitsOf_16 : decode cX6_bitsOf 16 = .ok (.istore 6, 2) := by decide +kernel
theorem dX6_bitsOf_18 : decode cX6_bitsOf 18 = .ok (.iload 6, 2) := by decide +kernel
theorem dX6_bitsOf_20 : decode cX6_bitsOf 20 = .ok (.sipush 1023, 3) := by decide +kernel
theorem dX6_bitsOf_23 : decode cX6_bitsOf 23 = .ok (.if_icmp .ge 27, 3) := by decide +kernel
theorem dX6_bitsOf_26 : decode cX6_bitsOf 26 = .ok (.dload_n 2, 1) := by decide +kernel
theorem dX6_bitsOf_27 : decode cX6_bitsOf 27 = .ok (.dconst 1, 1) := by decide +kernel
theorem dX6_bitsOf_28 : decode cX6_bitsOf 28 = .ok (.dcmp .g, 1) := by decide +kernel
theorem dX6_bitsOf_29 : decode cX6_bitsOf 29 = .ok (.ifCond .ge 21, 3) := by decide +kernel
theorem dX6_bitsOf_32 : decode cX6_bitsOf 32 = .ok (.dload_n 2, 1) := by decide +kernel
theorem dX6_bitsOf_33 : decode cX6_bitsOf 33 = .ok (.ldc2_w 354, 3) := by decide +kernel
theorem dX6_bitsOf_36 : decode cX6_bitsOf 36 = .ok (.dmul, 1) := by decide +kernel
theorem dX6_bitsOf_37 : decode cX6_bitsOf 37 = .ok (.dstore_n 2, 1) := by decide +kernel
theorem dX6_bitsOf_38 : decode cX6_bitsOf 38 = .ok (.lload 4, 2) := by decide +kernel
theorem dX6_bitsOf_40 : decode cX6_bitsOf 40 = .ok (.lconst 1, 1) := by decide +kernel
theorem dX6_bitsOf_41 : decode cX6_bitsOf 41 = .ok (.lsub, 1) := by decide +kernel
theorem dX6_bitsOf_42 : decode cX6_bitsOf 42 = .ok (.lstore 4, 2) := by decide +kernel
theorem dX6_bitsOf_44 : decode cX6_bitsOf 44 = .ok (.iinc 6 1, 3) := by decide +kernel
theorem dX6_bitsOf_47 : decode cX6_bitsOf 47 = .ok (.goto (-29), 3) := by decide +kernel
theorem dX6_bitsOf_50 : decode cX6_bitsOf 50 = .ok (.dload_n 2, 1) := by decide +kernel
theorem dX6_bitsOf_51 : decode cX6_bitsOf 51 = .ok (.dconst 1, 1) := by decide +kernel
theorem dX6_bitsOf_52 : decode cX6_bitsOf 52 = .ok (.dsub, 1) := by decide +kernel
theorem dX6_bitsOf_53 : decode cX6_bitsOf 53 = .ok (.ldc2_w 356, 3) := by decide +kernel
theorem dX6_bitsOf_56 : decode cX6_bitsOf 56 = .ok (.dmul, 1) := by decide +kernel
theorem dX6_bitsOf_57 : decode cX6_bitsOf 57 = .ok (.d2l, 1) := by decide +kernel
theorem dX6_bitsOf_58 : decode cX6_bitsOf 58 = .ok (.lstore 6, 2) := by decide +kernel
theorem dX6_bitsOf_60 : decode cX6_bitsOf 60 = .ok (.lload 4, 2) := by decide +kernel
theorem dX6_bitsOf_62 : decode cX6_bitsOf 62 = .ok (.bipush 52, 2) := by decide +kernel
theorem dX6_bitsOf_64 : decode cX6_bitsOf 64 = .ok (.lshl, 1) := by decide +kernel
theorem dX6_bitsOf_65 : decode cX6_bitsOf 65 = .ok (.lload 6, 2) := by decide +kernel
theorem dX6_bitsOf_67 : decode cX6_bitsOf 67 = .ok (.ladd, 1) := by decide +kernel
theorem dX6_bitsOf_68 : decode cX6_bitsOf 68 = .ok (.lreturn, 1) := by decide +kernel
