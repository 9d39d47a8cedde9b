theorem dX7_init_0 : decode cX7_init 0 = .ok (.aload_n 0, 1) := by decide +kernel
theorem dX7_init_1 : decode cX7_init 1 = .ok (.invokespecial 1, 3) := by decide +kernel
theorem dX7_init_4 : decode cX7_init 4 = .ok (.aload_n 0, 1) := by decide +kernel
theorem dX7_init_5 : decode cX7_init 5 = .ok (.sipush 350, 3) := by decide +kernel
theorem dX7_init_8 : decode cX7_init 8 = .ok (.newarray .int, 2) := by decide +kernel
theorem dX7_init_10 : decode cX7_init 10 = .ok (.putfield 7, 3) := by decide +kernel
theorem dX7_init_13 : decode cX7_init 13 = .ok (.aload_n 0, 1) := by decide +kernel
theorem dX7_init_14 : decode cX7_init 14 = .ok (.sipush 350, 3) := by decide +kernel
theorem dX7_init_17 : decode cX7_init 17 = .ok (.newarray .int, 2) := by decide +kernel
theorem dX7_init_19 : decode cX7_init 19 = .ok (.putfield 13, 3) := by decide +kernel
theorem dX7_init_22 : decode cX7_init 22 = .ok (.aload_n 0, 1) := by decide +kernel
theorem dX7_init_23 : decode cX7_init 23 = .ok (.sipush 2100, 3) := by decide +kernel
theorem dX7_init_26 : decode cX7_init 26 = .ok (.newarray .int, 2) := by decide +kernel
theorem dX7_init_28 : decode cX7_init 28 = .ok (.putfield 16, 3) := by decide +kernel
theorem dX7_init_31 : decode cX7_init 31 = .ok (.aload_n 0, 1) := by decide +kernel
theorem dX7_init_32 : decode cX7_init 32 = .ok (.sipush 350, 3) := by decide +kernel
theorem dX7_init_35 : decode cX7_init 35 = .ok (.newarray .int, 2) := by decide +kernel
theorem dX7_init_37 : decode cX7_init 37 = .ok (.putfield 19, 3) := by decide +kernel
theorem dX7_init_40 : decode cX7_init 40 = .ok (.aload_n 0, 1) := by decide +kernel
theorem dX7_init_41 : decode cX7_init 41 = .ok (.bipush 60, 2) := by decide +kernel
theorem dX7_init_43 : decode cX7_init 43 = .ok (.newarray .int, 2) := by decide +kernel
theorem dX7_init_45 : decode cX7_init 45 = .ok (.putfield 22, 3) := by decide +kernel
theorem dX7_init_48 : decode cX7_init 48 = .ok (.aload_n 0, 1) := by decide +kernel
theorem dX7_init_49 : decode cX7_init 49 = .ok (.bipush 64, 2) := by decide +kernel
theorem dX7_init_51 : decode cX7_init 51 = .ok (.newarray .int, 2) := by decide +kernel
theorem dX7_init_53 : decode cX7_init 53 = .ok (.putfield 25, 3) := by decide +kernel
theorem dX7_init_56 : decode cX7_init 56 = .ok (.aload_n 0, 1) := by decide +kernel
theorem dX7_init_57 : decode cX7_init 57 = .ok (.iconst 0, 1) := by decide +kernel
theorem dX7_init_58 : decode cX7_init 58 = .ok (.putfield 28, 3) := by decide +kernel
theorem dX7_init_61 : decode cX7_init 61 = .ok (.aload_n 0, 1) := by decide +kernel
theorem dX7_init_62 : decode cX7_init 62 = .ok (.getfield 7, 3) := by decide +kernel
theorem dX7_init_65 : decode cX7_init 65 = .ok (.iconst 0, 1) := by decide +kernel
theorem dX7_init_66 : decode cX7_init 66 = .ok (.bipush 60, 2) := by decide +kernel
theorem dX7_init_68 : decode cX7_init 68 = .ok (.iastore, 1) := by decide +kernel
theorem dX7_init_69 : decode cX7_init 69 = .ok (.aload_n 0, 1) := by decide +kernel
theorem dX7_init_70 : decode cX7_init 70 = .ok (.getfield 7, 3) := by decide +kernel
theorem dX7_init_73 : decode cX7_init 73 = .ok (.iconst 1, 1) := by decide +kernel
theorem dX7_init_74 : decode cX7_init 74 = .ok (.iconst 1, 1) := by decide +kernel
theorem dX7_init_75 : decode cX7_init 75 = .ok (.iastore, 1) := by decide +kernel
theorem dX7_init_76 : decode cX7_init 76 = .ok (.aload_n 0, 1) := by decide +kernel
theorem dX7_init_77 : decode cX7_init 77 = .ok (.getfield 7, 3) := by decide +kernel
theorem dX7_init_80 : decode cX7_init 80 = .ok (.iconst 2, 1) := by decide +kernel
theorem dX7_init_81 : decode cX7_init 81 = .ok (.iconst 1, 1) := by decide +kernel
theorem dX7_init_82 : decode cX7_init 82 = .ok (.iastore, 1) := by decide +kernel
theorem dX7_init_83 : decode cX7_init 83 = .ok (.aload_n 0, 1) := by decide +kernel
theorem dX7_init_84 : decode cX7_init 84 = .ok (.getfield 7, 3) := by decide +kernel
theorem dX7_init_87 : decode cX7_init 87 = .ok (.iconst 3, 1) := by decide +kernel
theorem dX7_init_88 : decode cX7_init 88 = .ok (.iconst (-1), 1) := by decide +kernel
theorem dX7_init_89 : decode cX7_init 89 = .ok (.iastore, 1) := by decide +kernel
theorem dX7_init_90 : decode cX7_init 90 = .ok (.aload_n 0, 1) := by decide +kernel
theorem dX7_init_91 : decode cX7_init 91 = .ok (.getfield 7, 3) := by decide +kernel
theorem dX7_init_94 : decode cX7_init 94 = .ok (.bipush 10, 2) := by decide +kernel
theorem dX7_init_96 : decode cX7_init 96 = .ok (.iconst (-1), 1) := by decide +kernel
theorem dX7_init_97 : decode cX7_init 97 = .ok (.iastore, 1) := by decide +kernel
theorem dX7_init_98 : decode cX7_init 98 = .ok (.aload_n 0, 1) := by decide +kernel
theorem dX7_init_99 : decode cX7_init 99 = .ok (.getfield 7, 3) := by decide +kernel
theorem dX7_init_102 : decode cX7_init 102 = .ok (.bipush 11, 2) := by decide +kernel
theorem dX7_init_104 : decode cX7_init 104 = .ok (.iconst (-1), 1) := by decide +kernel
theorem dX7_init_105 : decode cX7_init 105 = .ok (.iastore, 1) := by decide +kernel
theorem dX7_init_106 : decode cX7_init 106 = .ok (.iconst 0, 1) := by decide +kernel
theorem dX7_init_107 : decode cX7_init 107 = .ok (.istore_n 1, 1) := by decide +kernel
theorem dX7_init_108 : decode cX7_init 108 = .ok (.iload_n 1, 1) := by decide +kernel
theorem dX7_init_109 : decode cX7_init 109 = .ok (.bipush 12, 2) := by decide +kernel
theorem dX7_init_111 : decode cX7_init 111 = .ok (.if_icmp .ge 29, 3) := by decide +kernel
theorem dX7_init_114 : decode cX7_init 114 = .ok (.iconst 0, 1) := by decide +kernel
theorem dX7_init_115 : decode cX7_init 115 = .ok (.istore_n 2, 1) := by decide +kernel
theorem dX7_init_116 : decode cX7_init 116 = .ok (.iload_n 2, 1) := by decide +kernel
theorem dX7_init_117 : decode cX7_init 117 = .ok (.bipush 6, 2) := by decide +kernel
theorem dX7_init_119 : decode cX7_init 119 = .ok (.if_icmp .ge 15, 3) := by decide +kernel
theorem dX7_init_122 : decode cX7_init 122 = .ok (.aload_n 0, 1) := by decide +kernel
theorem dX7_init_123 : decode cX7_init 123 = .ok (.iload_n 1, 1) := by decide +kernel
theorem dX7_init_124 : decode cX7_init 124 = .ok (.iload_n 1, 1) := by decide +kernel
theorem dX7_init_125 : decode cX7_init 125 = .ok (.invokevirtual 32, 3) := by decide +kernel
theorem dX7_init_128 : decode cX7_init 128 = .ok (.iinc 2 1, 3) := by decide +kernel
theorem dX7_init_131 : decode cX7_init 131 = .ok (.goto (-15), 3) := by decide +kernel
theorem dX7_init_134 : decode cX7_init 134 = .ok (.iinc 1 1, 3) := by decide +kernel
theorem dX7_init_137 : decode cX7_init 137 = .ok (.goto (-29), 3) := by decide +kernel
theorem dX7_init_140 : decode cX7_init 140 = .ok (.return_, 1) := by decide +kernel
theorem dX7_thrown_0 : decode cX7_thrown 0 = .ok (.aload_n 0, 1) := by decide +kernel
theorem dX7_thrown_1 : decode cX7_thrown 1 = .ok (.getfield 28, 3) := by decide +kernel
theorem dX7_thrown_4 : decode cX7_thrown 4 = .ok (.ireturn, 1) := by decide +kernel
theorem dX7_in_0 : decode cX7_in 0 = .ok (.iload_n 0, 1) := by decide +kernel
theorem dX7_in_1 : decode cX7_in 1 = .ok (.iload_n 1, 1) := by decide +kernel
theorem dX7_in_2 : decode cX7_in 2 = .ok (.if_icmp .lt 12, 3) := by decide +kernel
theorem dX7_in_5 : decode cX7_in 5 = .ok (.iload_n 0, 1) := by decide +kernel
theorem dX7_in_6 : decode cX7_in 6 = .ok (.iload_n 2, 1) := by decide +kernel
theorem dX7_in_7 : decode cX7_in 7 = .ok (.if_icmp .gt 7, 3) := by decide +kernel
theorem dX7_in_10 : decode cX7_in 10 = .ok (.iconst 1, 1) := by decide +kernel
theorem dX7_in_11 : decode cX7_in 11 = .ok (.goto 4, 3) := by decide +kernel
theorem dX7_in_14 : decode cX7_in 14 = .ok (.iconst 0, 1) := by decide +kernel
theorem dX7_in_15 : decode cX7_in 15 = .ok (.ireturn, 1) := by decide +kernel
theorem dX7_fails_0 : decode cX7_fails 0 = .ok (.aload_n 0, 1) := by decide +kernel
theorem dX7_fails_1 : decode cX7_fails 1 = .ok (.iload_n 1, 1) := by decide +kernel
theorem dX7_fails_2 : decode cX7_fails 2 = .ok (.putfield 28, 3) := by decide +kernel
theorem dX7_fails_5 : decode cX7_fails 5 = .ok (.iconst 0, 1) := by decide +kernel
theorem dX7_fails_6 : decode cX7_fails 6 = .ok (.ireturn, 1) := by decide +kernel
theorem dX7_isBox_0 : decode cX7_isBox 0 = .ok (.iload_n 0, 1) := by decide +kernel
theorem dX7_isBox_1 : decode cX7_isBox 1 = .ok (.iconst 0, 1) := by decide +kernel
theorem dX7_isBox_2 : decode cX7_isBox 2 = .ok (.bipush 11, 2) := by decide +kernel
theorem dX7_isBox_4 : decode cX7_isBox 4 = .ok (.invokestatic 36, 3) := by decide +kernel
theorem dX7_isBox_7 : decode cX7_isBox 7 = .ok (.ireturn, 1) := by decide +kernel
theorem dX7_widthOf_0 : decode cX7_widthOf 0 = .ok (.iconst 2, 1) := by decide +kernel
theorem dX7_widthOf_1 : decode cX7_widthOf 1 = .ok (.iload_n 0, 1) := by decide +kernel
theorem dX7_widthOf_2 : decode cX7_widthOf 2 = .ok (.iconst 3, 1) := by decide +kernel
theorem dX7_widthOf_3 : decode cX7_widthOf 3 = .ok (.irem, 1) := by decide +kernel
theorem dX7_widthOf_4 : decode cX7_widthOf 4 = .ok (.iadd, 1) := by decide +kernel
theorem dX7_widthOf_5 : decode cX7_widthOf 5 = .ok (.ireturn, 1) := by decide +kernel
theorem dX7_many_0 : decode cX7_many 0 = .ok (.aload_n 0, 1) := by decide +kernel
theorem dX7_many_1 : decode cX7_many 1 = .ok (.getfield 7, 3) := by decide +kernel
theorem dX7_many_4 : decode cX7_many 4 = .ok (.bipush 95, 2) := by decide +kernel
theorem dX7_many_6 : decode cX7_many 6 = .ok (.bipush 21, 2) := by decide +kernel
theorem dX7_many_8 : decode cX7_many 8 = .ok (.iload_n 1, 1) := by decide +kernel
theorem dX7_many_9 : decode cX7_many 9 = .ok (.imul, 1) := by decide +kernel
theorem dX7_many_10 : decode cX7_many 10 = .ok (.iadd, 1) := by decide +kernel
theorem dX7_many_11 : decode cX7_many 11 = .ok (.iaload, 1) := by decide +kernel
theorem dX7_many_12 : decode cX7_many 12 = .ok (.ireturn, 1) := by decide +kernel
theorem dX7_typeAt_0 : decode cX7_typeAt 0 = .ok (.aload_n 0, 1) := by decide +kernel
theorem dX7_typeAt_1 : decode cX7_typeAt 1 = .ok (.getfield 7, 3) := by decide +kernel
theorem dX7_typeAt_4 : decode cX7_typeAt 4 = .ok (.bipush 95, 2) := by decide +kernel
theorem dX7_typeAt_6 : decode cX7_typeAt 6 = .ok (.bipush 21, 2) := by decide +kernel
theorem dX7_typeAt_8 : decode cX7_typeAt 8 = .ok (.iload_n 1, 1) := by decide +kernel
theorem dX7_typeAt_9 : decode cX7_typeAt 9 = .ok (.imul, 1) := by decide +kernel
theorem dX7_typeAt_10 : decode cX7_typeAt 10 = .ok (.iadd, 1) := by decide +kernel
theorem dX7_typeAt_11 : decode cX7_typeAt 11 = .ok (.iconst 1, 1) := by decide +kernel
theorem dX7_typeAt_12 : decode cX7_typeAt 12 = .ok (.iadd, 1) := by decide +kernel
theorem dX7_typeAt_13 : decode cX7_typeAt 13 = .ok (.iload_n 2, 1) := by decide +kernel
theorem dX7_typeAt_14 : decode cX7_typeAt 14 = .ok (.iadd, 1) := by decide +kernel
theorem dX7_typeAt_15 : decode cX7_typeAt 15 = .ok (.iaload, 1) := by decide +kernel
theorem dX7_typeAt_16 : decode cX7_typeAt 16 = .ok (.ireturn, 1) := by decide +kernel
theorem dX7_upmost_0 : decode cX7_upmost 0 = .ok (.aload_n 0, 1) := by decide +kernel
theorem dX7_upmost_1 : decode cX7_upmost 1 = .ok (.iload_n 1, 1) := by decide +kernel
theorem dX7_upmost_2 : decode cX7_upmost 2 = .ok (.invokevirtual 40, 3) := by decide +kernel
theorem dX7_upmost_5 : decode cX7_upmost 5 = .ok (.ifCond .ne 7, 3) := by decide +kernel
theorem dX7_upmost_8 : decode cX7_upmost 8 = .ok (.iconst (-1), 1) := by decide +kernel
theorem dX7_upmost_9 : decode cX7_upmost 9 = .ok (.goto 15, 3) := by decide +kernel
theorem dX7_upmost_12 : decode cX7_upmost 12 = .ok (.aload_n 0, 1) := by decide +kernel
theorem dX7_upmost_13 : decode cX7_upmost 13 = .ok (.iload_n 1, 1) := by decide +kernel
theorem dX7_upmost_14 : decode cX7_upmost 14 = .ok (.aload_n 0, 1) := by decide +kernel
theorem dX7_upmost_15 : decode cX7_upmost 15 = .ok (.iload_n 1, 1) := by decide +kernel
theorem dX7_upmost_16 : decode cX7_upmost 16 = .ok (.invokevirtual 40, 3) := by decide +kernel
theorem dX7_upmost_19 : decode cX7_upmost 19 = .ok (.iconst 1, 1) := by decide +kernel
theorem dX7_upmost_20 : decode cX7_upmost 20 = .ok (.isub, 1) := by decide +kernel
theorem dX7_upmost_21 : decode cX7_upmost 21 = .ok (.invokevirtual 44, 3) := by decide +kernel
theorem dX7_upmost_24 : decode cX7_upmost 24 = .ok (.ireturn, 1) := by decide +kernel
theorem dX7_puts_0 : decode cX7_puts 0 = .ok (.aload_n 0, 1) := by decide +kernel
theorem dX7_puts_1 : decode cX7_puts 1 = .ok (.getfield 7, 3) := by decide +kernel
theorem dX7_puts_4 : decode cX7_puts 4 = .ok (.bipush 95, 2) := by decide +kernel
theorem dX7_puts_6 : decode cX7_puts 6 = .ok (.bipush 21, 2) := by decide +kernel
theorem dX7_puts_8 : decode cX7_puts 8 = .ok (.iload_n 1, 1) := by decide +kernel
theorem dX7_puts_9 : decode cX7_puts 9 = .ok (.imul, 1) := by decide +kernel
theorem dX7_puts_10 : decode cX7_puts 10 = .ok (.iadd, 1) := by decide +kernel
theorem dX7_puts_11 : decode cX7_puts 11 = .ok (.iconst 1, 1) := by decide +kernel
theorem dX7_puts_12 : decode cX7_puts 12 = .ok (.iadd, 1) := by decide +kernel
theorem dX7_puts_13 : decode cX7_puts 13 = .ok (.aload_n 0, 1) := by decide +kernel
theorem dX7_puts_14 : decode cX7_puts 14 = .ok (.iload_n 1, 1) := by decide +kernel
theorem dX7_puts_15 : decode cX7_puts 15 = .ok (.invokevirtual 40, 3) := by decide +kernel
theorem dX7_puts_18 : decode cX7_puts 18 = .ok (.iadd, 1) := by decide +kernel
theorem dX7_puts_19 : decode cX7_puts 19 = .ok (.iload_n 2, 1) := by decide +kernel
theorem dX7_puts_20 : decode cX7_puts 20 = .ok (.iastore, 1) := by decide +kernel
theorem dX7_puts_21 : decode cX7_puts 21 = .ok (.aload_n 0, 1) := by decide +kernel
theorem dX7_puts_22 : decode cX7_puts 22 = .ok (.getfield 7, 3) := by decide +kernel
theorem dX7_puts_25 : decode cX7_puts 25 = .ok (.bipush 95, 2) := by decide +kernel
theorem dX7_puts_27 : decode cX7_puts 27 = .ok (.bipush 21, 2) := by decide +kernel
theorem dX7_puts_29 : decode cX7_puts 29 = .ok (.iload_n 1, 1) := by decide +kernel
theorem dX7_puts_30 : decode cX7_puts 30 = .ok (.imul, 1) := by decide +kernel
theorem dX7_puts_31 : decode cX7_puts 31 = .ok (.iadd, 1) := by decide +kernel
theorem dX7_puts_32 : decode cX7_puts 32 = .ok (.dup2, 1) := by decide +kernel
theorem dX7_puts_33 : decode cX7_puts 33 = .ok (.iaload, 1) := by decide +kernel
theorem dX7_puts_34 : decode cX7_puts 34 = .ok (.iconst 1, 1) := by decide +kernel
theorem dX7_puts_35 : decode cX7_puts 35 = .ok (.iadd, 1) := by decide +kernel
theorem dX7_puts_36 : decode cX7_puts 36 = .ok (.iastore, 1) := by decide +kernel
theorem dX7_puts_37 : decode cX7_puts 37 = .ok (.return_, 1) := by decide +kernel
theorem dX7_takes_0 : decode cX7_takes 0 = .ok (.aload_n 0, 1) := by decide +kernel
theorem dX7_takes_1 : decode cX7_takes 1 = .ok (.iload_n 1, 1) := by decide +kernel
theorem dX7_takes_2 : decode cX7_takes 2 = .ok (.iload_n 2, 1) := by decide +kernel
theorem dX7_takes_3 : decode cX7_takes 3 = .ok (.invokevirtual 44, 3) := by decide +kernel
theorem dX7_takes_6 : decode cX7_takes 6 = .ok (.istore_n 3, 1) := by decide +kernel
theorem dX7_takes_7 : decode cX7_takes 7 = .ok (.aload_n 0, 1) := by decide +kernel
theorem dX7_takes_8 : decode cX7_takes 8 = .ok (.getfield 7, 3) := by decide +kernel
theorem dX7_takes_11 : decode cX7_takes 11 = .ok (.bipush 95, 2) := by decide +kernel
theorem dX7_takes_13 : decode cX7_takes 13 = .ok (.bipush 21, 2) := by decide +kernel
theorem dX7_takes_15 : decode cX7_takes 15 = .ok (.iload_n 1, 1) := by decide +kernel
theorem dX7_takes_16 : decode cX7_takes 16 = .ok (.imul, 1) := by decide +kernel
theorem dX7_takes_17 : decode cX7_takes 17 = .ok (.iadd, 1) := by decide +kernel
theorem dX7_takes_18 : decode cX7_takes 18 = .ok (.dup2, 1) := by decide +kernel
theorem dX7_takes_19 : decode cX7_takes 19 = .ok (.iaload, 1) := by decide +kernel
theorem dX7_takes_20 : decode cX7_takes 20 = .ok (.iconst 1, 1) := by decide +kernel
theorem dX7_takes_21 : decode cX7_takes 21 = .ok (.isub, 1) := by decide +kernel
theorem dX7_takes_22 : decode cX7_takes 22 = .ok (.iastore, 1) := by decide +kernel
theorem dX7_takes_23 : decode cX7_takes 23 = .ok (.iload_n 2, 1) := by decide +kernel
theorem dX7_takes_24 : decode cX7_takes 24 = .ok (.istore 4, 2) := by decide +kernel
theorem dX7_takes_26 : decode cX7_takes 26 = .ok (.iload 4, 2) := by decide +kernel
theorem dX7_takes_28 : decode cX7_takes 28 = .ok (.aload_n 0, 1) := by decide +kernel
theorem dX7_takes_29 : decode cX7_takes 29 = .ok (.iload_n 1, 1) := by decide +kernel
theorem dX7_takes_30 : decode cX7_takes 30 = .ok (.invokevirtual 40, 3) := by decide +kernel
theorem dX7_takes_33 : decode cX7_takes 33 = .ok (.if_icmp .ge 35, 3) := by decide +kernel
theorem dX7_takes_36 : decode cX7_takes 36 = .ok (.aload_n 0, 1) := by decide +kernel
theorem dX7_takes_37 : decode cX7_takes 37 = .ok (.getfield 7, 3) := by decide +kernel
theorem dX7_takes_40 : decode cX7_takes 40 = .ok (.bipush 95, 2) := by decide +kernel
theorem dX7_takes_42 : decode cX7_takes 42 = .ok (.bipush 21, 2) := by decide +kernel
theorem dX7_takes_44 : decode cX7_takes 44 = .ok (.iload_n 1, 1) := by decide +kernel
theorem dX7_takes_45 : decode cX7_takes 45 = .ok (.imul, 1) := by decide +kernel
theorem dX7_takes_46 : decode cX7_takes 46 = .ok (.iadd, 1) := by decide +kernel
theorem dX7_takes_47 : decode cX7_takes 47 = .ok (.iconst 1, 1) := by decide +kernel
theorem dX7_takes_48 : decode cX7_takes 48 = .ok (.iadd, 1) := by decide +kernel
theorem dX7_takes_49 : decode cX7_takes 49 = .ok (.iload 4, 2) := by decide +kernel
theorem dX7_takes_51 : decode cX7_takes 51 = .ok (.iadd, 1) := by decide +kernel
theorem dX7_takes_52 : decode cX7_takes 52 = .ok (.aload_n 0, 1) := by decide +kernel
theorem dX7_takes_53 : decode cX7_takes 53 = .ok (.iload_n 1, 1) := by decide +kernel
theorem dX7_takes_54 : decode cX7_takes 54 = .ok (.iload 4, 2) := by decide +kernel
theorem dX7_takes_56 : decode cX7_takes 56 = .ok (.iconst 1, 1) := by decide +kernel
theorem dX7_takes_57 : decode cX7_takes 57 = .ok (.iadd, 1) := by decide +kernel
theorem dX7_takes_58 : decode cX7_takes 58 = .ok (.invokevirtual 44, 3) := by decide +kernel
theorem dX7_takes_61 : decode cX7_takes 61 = .ok (.iastore, 1) := by decide +kernel
theorem dX7_takes_62 : decode cX7_takes 62 = .ok (.iinc 4 1, 3) := by decide +kernel
theorem dX7_takes_65 : decode cX7_takes 65 = .ok (.goto (-39), 3) := by decide +kernel
theorem dX7_takes_68 : decode cX7_takes 68 = .ok (.aload_n 0, 1) := by decide +kernel
theorem dX7_takes_69 : decode cX7_takes 69 = .ok (.getfield 7, 3) := by decide +kernel
theorem dX7_takes_72 : decode cX7_takes 72 = .ok (.bipush 95, 2) := by decide +kernel
theorem dX7_takes_74 : decode cX7_takes 74 = .ok (.bipush 21, 2) := by decide +kernel
theorem dX7_takes_76 : decode cX7_takes 76 = .ok (.iload_n 1, 1) := by decide +kernel
theorem dX7_takes_77 : decode cX7_takes 77 = .ok (.imul, 1) := by decide +kernel
theorem dX7_takes_78 : decode cX7_takes 78 = .ok (.iadd, 1) := by decide +kernel
theorem dX7_takes_79 : decode cX7_takes 79 = .ok (.iconst 1, 1) := by decide +kernel
theorem dX7_takes_80 : decode cX7_takes 80 = .ok (.iadd, 1) := by decide +kernel
theorem dX7_takes_81 : decode cX7_takes 81 = .ok (.aload_n 0, 1) := by decide +kernel
theorem dX7_takes_82 : decode cX7_takes 82 = .ok (.iload_n 1, 1) := by decide +kernel
theorem dX7_takes_83 : decode cX7_takes 83 = .ok (.invokevirtual 40, 3) := by decide +kernel
theorem dX7_takes_86 : decode cX7_takes 86 = .ok (.iadd, 1) := by decide +kernel
theorem dX7_takes_87 : decode cX7_takes 87 = .ok (.iconst 0, 1) := by decide +kernel
theorem dX7_takes_88 : decode cX7_takes 88 = .ok (.iastore, 1) := by decide +kernel
theorem dX7_takes_89 : decode cX7_takes 89 = .ok (.iload_n 3, 1) := by decide +kernel
theorem dX7_takes_90 : decode cX7_takes 90 = .ok (.ireturn, 1) := by decide +kernel
theorem dX7_takesUpmost_0 : decode cX7_takesUpmost 0 = .ok (.aload_n 0, 1) := by decide +kernel
theorem dX7_takesUpmost_1 : decode cX7_takesUpmost 1 = .ok (.iload_n 1, 1) := by decide +kernel
theorem dX7_takesUpmost_2 : decode cX7_takesUpmost 2 = .ok (.aload_n 0, 1) := by decide +kernel
theorem dX7_takesUpmost_3 : decode cX7_takesUpmost 3 = .ok (.iload_n 1, 1) := by decide +kernel
theorem dX7_takesUpmost_4 : decode cX7_takesUpmost 4 = .ok (.invokevirtual 40, 3) := by decide +kernel
theorem dX7_takesUpmost_7 : decode cX7_takesUpmost 7 = .ok (.iconst 1, 1) := by decide +kernel
theorem dX7_takesUpmost_8 : decode cX7_takesUpmost 8 = .ok (.isub, 1) := by decide +kernel
theorem dX7_takesUpmost_9 : decode cX7_takesUpmost 9 = .ok (.invokevirtual 48, 3) := by decide +kernel
theorem dX7_takesUpmost_12 : decode cX7_takesUpmost 12 = .ok (.ireturn, 1) := by decide +kernel
theorem dX7_saves_0 : decode cX7_saves 0 = .ok (.aload_n 0, 1) := by decide +kernel
theorem dX7_saves_1 : decode cX7_saves 1 = .ok (.getfield 51, 3) := by decide +kernel
theorem dX7_saves_4 : decode cX7_saves 4 = .ok (.bipush 6, 2) := by decide +kernel
theorem dX7_saves_6 : decode cX7_saves 6 = .ok (.if_icmp .ne 44, 3) := by decide +kernel
theorem dX7_saves_9 : decode cX7_saves 9 = .ok (.iconst 0, 1) := by decide +kernel
theorem dX7_saves_10 : decode cX7_saves 10 = .ok (.istore_n 1, 1) := by decide +kernel
theorem dX7_saves_11 : decode cX7_saves 11 = .ok (.iload_n 1, 1) := by decide +kernel
theorem dX7_saves_12 : decode cX7_saves 12 = .ok (.sipush 1750, 3) := by decide +kernel
theorem dX7_saves_15 : decode cX7_saves 15 = .ok (.if_icmp .ge 25, 3) := by decide +kernel
theorem dX7_saves_18 : decode cX7_saves 18 = .ok (.aload_n 0, 1) := by decide +kernel
theorem dX7_saves_19 : decode cX7_saves 19 = .ok (.getfield 16, 3) := by decide +kernel
theorem dX7_saves_22 : decode cX7_saves 22 = .ok (.iload_n 1, 1) := by decide +kernel
theorem dX7_saves_23 : decode cX7_saves 23 = .ok (.aload_n 0, 1) := by decide +kernel
theorem dX7_saves_24 : decode cX7_saves 24 = .ok (.getfield 16, 3) := by decide +kernel
theorem dX7_saves_27 : decode cX7_saves 27 = .ok (.iload_n 1, 1) := by decide +kernel
theorem dX7_saves_28 : decode cX7_saves 28 = .ok (.sipush 350, 3) := by decide +kernel
theorem dX7_saves_31 : decode cX7_saves 31 = .ok (.iadd, 1) := by decide +kernel
theorem dX7_saves_32 : decode cX7_saves 32 = .ok (.iaload, 1) := by decide +kernel
theorem dX7_saves_33 : decode cX7_saves 33 = .ok (.iastore, 1) := by decide +kernel
theorem dX7_saves_34 : decode cX7_saves 34 = .ok (.iinc 1 1, 3) := by decide +kernel
theorem dX7_saves_37 : decode cX7_saves 37 = .ok (.goto (-26), 3) := by decide +kernel
theorem dX7_saves_40 : decode cX7_saves 40 = .ok (.aload_n 0, 1) := by decide +kernel
theorem dX7_saves_41 : decode cX7_saves 41 = .ok (.dup, 1) := by decide +kernel
theorem dX7_saves_42 : decode cX7_saves 42 = .ok (.getfield 51, 3) := by decide +kernel
theorem dX7_saves_45 : decode cX7_saves 45 = .ok (.iconst 1, 1) := by decide +kernel
theorem dX7_saves_46 : decode cX7_saves 46 = .ok (.isub, 1) := by decide +kernel
theorem dX7_saves_47 : decode cX7_saves 47 = .ok (.putfield 51, 3) := by decide +kernel
theorem dX7_saves_50 : decode cX7_saves 50 = .ok (.iconst 0, 1) := by decide +kernel
theorem dX7_saves_51 : decode cX7_saves 51 = .ok (.istore_n 1, 1) := by decide +kernel
theorem dX7_saves_52 : decode cX7_saves 52 = .ok (.iload_n 1, 1) := by decide +kernel
theorem dX7_saves_53 : decode cX7_saves 53 = .ok (.sipush 350, 3) := by decide +kernel
theorem dX7_saves_56 : decode cX7_saves 56 = .ok (.if_icmp .ge 30, 3) := by decide +kernel
theorem dX7_saves_59 : decode cX7_saves 59 = .ok (.aload_n 0, 1) := by decide +kernel
theorem dX7_saves_60 : decode cX7_saves 60 = .ok (.getfield 16, 3) := by decide +kernel
theorem dX7_saves_63 : decode cX7_saves 63 = .ok (.sipush 350, 3) := by decide +kernel
theorem dX7_saves_66 : decode cX7_saves 66 = .ok (.aload_n 0, 1) := by decide +kernel
theorem dX7_saves_67 : decode cX7_saves 67 = .ok (.getfield 51, 3) := by decide +kernel
theorem dX7_saves_70 : decode cX7_saves 70 = .ok (.imul, 1) := by decide +kernel
theorem dX7_saves_71 : decode cX7_saves 71 = .ok (.iload_n 1, 1) := by decide +kernel
theorem dX7_saves_72 : decode cX7_saves 72 = .ok (.iadd, 1) := by decide +kernel
theorem dX7_saves_73 : decode cX7_saves 73 = .ok (.aload_n 0, 1) := by decide +kernel
theorem dX7_saves_74 : decode cX7_saves 74 = .ok (.getfield 7, 3) := by decide +kernel
theorem dX7_saves_77 : decode cX7_saves 77 = .ok (.iload_n 1, 1) := by decide +kernel
theorem dX7_saves_78 : decode cX7_saves 78 = .ok (.iaload, 1) := by decide +kernel
theorem dX7_saves_79 : decode cX7_saves 79 = .ok (.iastore, 1) := by decide +kernel
theorem dX7_saves_80 : decode cX7_saves 80 = .ok (.iinc 1 1, 3) := by decide +kernel
theorem dX7_saves_83 : decode cX7_saves 83 = .ok (.goto (-31), 3) := by decide +kernel
theorem dX7_saves_86 : decode cX7_saves 86 = .ok (.aload_n 0, 1) := by decide +kernel
theorem dX7_saves_87 : decode cX7_saves 87 = .ok (.dup, 1) := by decide +kernel
theorem dX7_saves_88 : decode cX7_saves 88 = .ok (.getfield 51, 3) := by decide +kernel
theorem dX7_saves_91 : decode cX7_saves 91 = .ok (.iconst 1, 1) := by decide +kernel
theorem dX7_saves_92 : decode cX7_saves 92 = .ok (.iadd, 1) := by decide +kernel
theorem dX7_saves_93 : decode cX7_saves 93 = .ok (.putfield 51, 3) := by decide +kernel
theorem dX7_saves_96 : decode cX7_saves 96 = .ok (.return_, 1) := by decide +kernel
theorem dX7_putAside_0 : decode cX7_putAside 0 = .ok (.iconst 0, 1) := by decide +kernel
theorem dX7_putAside_1 : decode cX7_putAside 1 = .ok (.istore_n 1, 1) := by decide +kernel
theorem dX7_putAside_2 : decode cX7_putAside 2 = .ok (.iload_n 1, 1) := by decide +kernel
theorem dX7_putAside_3 : decode cX7_putAside 3 = .ok (.sipush 350, 3) := by decide +kernel
theorem dX7_putAside_6 : decode cX7_putAside 6 = .ok (.if_icmp .ge 21, 3) := by decide +kernel
theorem dX7_putAside_9 : decode cX7_putAside 9 = .ok (.aload_n 0, 1) := by decide +kernel
theorem dX7_putAside_10 : decode cX7_putAside 10 = .ok (.getfield 13, 3) := by decide +kernel
theorem dX7_putAside_13 : decode cX7_putAside 13 = .ok (.iload_n 1, 1) := by decide +kernel
theorem dX7_putAside_14 : decode cX7_putAside 14 = .ok (.aload_n 0, 1) := by decide +kernel
theorem dX7_putAside_15 : decode cX7_putAside 15 = .ok (.getfield 7, 3) := by decide +kernel
theorem dX7_putAside_18 : decode cX7_putAside 18 = .ok (.iload_n 1, 1) := by decide +kernel
theorem dX7_putAside_19 : decode cX7_putAside 19 = .ok (.iaload, 1) := by decide +kernel
theorem dX7_putAside_20 : decode cX7_putAside 20 = .ok (.iastore, 1) := by decide +kernel
theorem dX7_putAside_21 : decode cX7_putAside 21 = .ok (.iinc 1 1, 3) := by decide +kernel
theorem dX7_putAside_24 : decode cX7_putAside 24 = .ok (.goto (-22), 3) := by decide +kernel
theorem dX7_putAside_27 : decode cX7_putAside 27 = .ok (.return_, 1) := by decide +kernel
theorem dX7_takeBack_0 : decode cX7_takeBack 0 = .ok (.iconst 0, 1) := by decide +kernel
theorem dX7_takeBack_1 : decode cX7_takeBack 1 = .ok (.istore_n 1, 1) := by decide +kernel
theorem dX7_takeBack_2 : decode cX7_takeBack 2 = .ok (.iload_n 1, 1) := by decide +kernel
theorem dX7_takeBack_3 : decode cX7_takeBack 3 = .ok (.sipush 350, 3) := by decide +kernel
theorem dX7_takeBack_6 : decode cX7_takeBack 6 = .ok (.if_icmp .ge 21, 3) := by decide +kernel
theorem dX7_takeBack_9 : decode cX7_takeBack 9 = .ok (.aload_n 0, 1) := by decide +kernel
theorem dX7_takeBack_10 : decode cX7_takeBack 10 = .ok (.getfield 7, 3) := by decide +kernel
theorem dX7_takeBack_13 : decode cX7_takeBack 13 = .ok (.iload_n 1, 1) := by decide +kernel
theorem dX7_takeBack_14 : decode cX7_takeBack 14 = .ok (.aload_n 0, 1) := by decide +kernel
theorem dX7_takeBack_15 : decode cX7_takeBack 15 = .ok (.getfield 13, 3) := by decide +kernel
theorem dX7_takeBack_18 : decode cX7_takeBack 18 = .ok (.iload_n 1, 1) := by decide +kernel
theorem dX7_takeBack_19 : decode cX7_takeBack 19 = .ok (.iaload, 1) := by decide +kernel
theorem dX7_takeBack_20 : decode cX7_takeBack 20 = .ok (.iastore, 1) := by decide +kernel
theorem dX7_takeBack_21 : decode cX7_takeBack 21 = .ok (.iinc 1 1, 3) := by decide +kernel
theorem dX7_takeBack_24 : decode cX7_takeBack 24 = .ok (.goto (-22), 3) := by decide +kernel
theorem dX7_takeBack_27 : decode cX7_takeBack 27 = .ok (.return_, 1) := by decide +kernel
theorem dX7_width_0 : decode cX7_width 0 = .ok (.aload_n 0, 1) := by decide +kernel
theorem dX7_width_1 : decode cX7_width 1 = .ok (.getfield 7, 3) := by decide +kernel
theorem dX7_width_4 : decode cX7_width 4 = .ok (.bipush 12, 2) := by decide +kernel
theorem dX7_width_6 : decode cX7_width 6 = .ok (.iaload, 1) := by decide +kernel
theorem dX7_width_7 : decode cX7_width 7 = .ok (.ifCond .le 15, 3) := by decide +kernel
theorem dX7_width_10 : decode cX7_width 10 = .ok (.aload_n 0, 1) := by decide +kernel
theorem dX7_width_11 : decode cX7_width 11 = .ok (.getfield 7, 3) := by decide +kernel
theorem dX7_width_14 : decode cX7_width 14 = .ok (.bipush 12, 2) := by decide +kernel
theorem dX7_width_16 : decode cX7_width 16 = .ok (.iaload, 1) := by decide +kernel
theorem dX7_width_17 : decode cX7_width 17 = .ok (.iconst 1, 1) := by decide +kernel
theorem dX7_width_18 : decode cX7_width 18 = .ok (.isub, 1) := by decide +kernel
theorem dX7_width_19 : decode cX7_width 19 = .ok (.goto 4, 3) := by decide +kernel
theorem dX7_width_22 : decode cX7_width 22 = .ok (.iconst 0, 1) := by decide +kernel
theorem dX7_width_23 : decode cX7_width 23 = .ok (.istore_n 1, 1) := by decide +kernel
theorem dX7_width_24 : decode cX7_width 24 = .ok (.iconst 0, 1) := by decide +kernel
theorem dX7_width_25 : decode cX7_width 25 = .ok (.istore_n 2, 1) := by decide +kernel
theorem dX7_width_26 : decode cX7_width 26 = .ok (.iload_n 2, 1) := by decide +kernel
theorem dX7_width_27 : decode cX7_width 27 = .ok (.aload_n 0, 1) := by decide +kernel
theorem dX7_width_28 : decode cX7_width 28 = .ok (.getfield 7, 3) := by decide +kernel
theorem dX7_width_31 : decode cX7_width 31 = .ok (.bipush 12, 2) := by decide +kernel
theorem dX7_width_33 : decode cX7_width 33 = .ok (.iaload, 1) := by decide +kernel
theorem dX7_width_34 : decode cX7_width 34 = .ok (.if_icmp .ge 24, 3) := by decide +kernel
theorem dX7_width_37 : decode cX7_width 37 = .ok (.iload_n 1, 1) := by decide +kernel
theorem dX7_width_38 : decode cX7_width 38 = .ok (.aload_n 0, 1) := by decide +kernel
theorem dX7_width_39 : decode cX7_width 39 = .ok (.getfield 7, 3) := by decide +kernel
theorem dX7_width_42 : decode cX7_width 42 = .ok (.bipush 13, 2) := by decide +kernel
theorem dX7_width_44 : decode cX7_width 44 = .ok (.iload_n 2, 1) := by decide +kernel
theorem dX7_width_45 : decode cX7_width 45 = .ok (.iadd, 1) := by decide +kernel
theorem dX7_width_46 : decode cX7_width 46 = .ok (.iaload, 1) := by decide +kernel
theorem dX7_width_47 : decode cX7_width 47 = .ok (.invokestatic 54, 3) := by decide +kernel
theorem dX7_width_50 : decode cX7_width 50 = .ok (.iadd, 1) := by decide +kernel
theorem dX7_width_51 : decode cX7_width 51 = .ok (.istore_n 1, 1) := by decide +kernel
theorem dX7_width_52 : decode cX7_width 52 = .ok (.iinc 2 1, 3) := by decide +kernel
theorem dX7_width_55 : decode cX7_width 55 = .ok (.goto (-29), 3) := by decide +kernel
theorem dX7_width_58 : decode cX7_width 58 = .ok (.iload_n 1, 1) := by decide +kernel
theorem dX7_width_59 : decode cX7_width 59 = .ok (.ireturn, 1) := by decide +kernel
theorem dX7_isError_0 : decode cX7_isError 0 = .ok (.aload_n 0, 1) := by decide +kernel
theorem dX7_isError_1 : decode cX7_isError 1 = .ok (.getfield 7, 3) := by decide +kernel
theorem dX7_isError_4 : decode cX7_isError 4 = .ok (.bipush 13, 2) := by decide +kernel
theorem dX7_isError_6 : decode cX7_isError 6 = .ok (.iload_n 1, 1) := by decide +kernel
theorem dX7_isError_7 : decode cX7_isError 7 = .ok (.iadd, 1) := by decide +kernel
theorem dX7_isError_8 : decode cX7_isError 8 = .ok (.iaload, 1) := by decide +kernel
theorem dX7_isError_9 : decode cX7_isError 9 = .ok (.aload_n 0, 1) := by decide +kernel
theorem dX7_isError_10 : decode cX7_isError 10 = .ok (.getfield 7, 3) := by decide +kernel
theorem dX7_isError_13 : decode cX7_isError 13 = .ok (.bipush 54, 2) := by decide +kernel
theorem dX7_isError_15 : decode cX7_isError 15 = .ok (.iload_n 1, 1) := by decide +kernel
theorem dX7_isError_16 : decode cX7_isError 16 = .ok (.iadd, 1) := by decide +kernel
theorem dX7_isError_17 : decode cX7_isError 17 = .ok (.iaload, 1) := by decide +kernel
theorem dX7_isError_18 : decode cX7_isError 18 = .ok (.if_icmp .eq 7, 3) := by decide +kernel
theorem dX7_isError_21 : decode cX7_isError 21 = .ok (.iconst 1, 1) := by decide +kernel
theorem dX7_isError_22 : decode cX7_isError 22 = .ok (.goto 4, 3) := by decide +kernel
theorem dX7_isError_25 : decode cX7_isError 25 = .ok (.iconst 0, 1) := by decide +kernel
theorem dX7_isError_26 : decode cX7_isError 26 = .ok (.ireturn, 1) := by decide +kernel
theorem dX7_errors_0 : decode cX7_errors 0 = .ok (.iconst 0, 1) := by decide +kernel
theorem dX7_errors_1 : decode cX7_errors 1 = .ok (.istore_n 1, 1) := by decide +kernel
theorem dX7_errors_2 : decode cX7_errors 2 = .ok (.iconst 0, 1) := by decide +kernel
theorem dX7_errors_3 : decode cX7_errors 3 = .ok (.istore_n 2, 1) := by decide +kernel
theorem dX7_errors_4 : decode cX7_errors 4 = .ok (.iload_n 2, 1) := by decide +kernel
theorem dX7_errors_5 : decode cX7_errors 5 = .ok (.aload_n 0, 1) := by decide +kernel
theorem dX7_errors_6 : decode cX7_errors 6 = .ok (.getfield 7, 3) := by decide +kernel
theorem dX7_errors_9 : decode cX7_errors 9 = .ok (.bipush 12, 2) := by decide +kernel
theorem dX7_errors_11 : decode cX7_errors 11 = .ok (.iaload, 1) := by decide +kernel
theorem dX7_errors_12 : decode cX7_errors 12 = .ok (.if_icmp .ge 25, 3) := by decide +kernel
theorem dX7_errors_15 : decode cX7_errors 15 = .ok (.iload_n 1, 1) := by decide +kernel
theorem dX7_errors_16 : decode cX7_errors 16 = .ok (.aload_n 0, 1) := by decide +kernel
theorem dX7_errors_17 : decode cX7_errors 17 = .ok (.iload_n 2, 1) := by decide +kernel
theorem dX7_errors_18 : decode cX7_errors 18 = .ok (.invokevirtual 57, 3) := by decide +kernel
theorem dX7_errors_21 : decode cX7_errors 21 = .ok (.ifCond .eq 7, 3) := by decide +kernel
theorem dX7_errors_24 : decode cX7_errors 24 = .ok (.iconst 1, 1) := by decide +kernel
theorem dX7_errors_25 : decode cX7_errors 25 = .ok (.goto 4, 3) := by decide +kernel
theorem dX7_errors_28 : decode cX7_errors 28 = .ok (.iconst 0, 1) := by decide +kernel
theorem dX7_errors_29 : decode cX7_errors 29 = .ok (.iadd, 1) := by decide +kernel
theorem dX7_errors_30 : decode cX7_errors 30 = .ok (.istore_n 1, 1) := by decide +kernel
theorem dX7_errors_31 : decode cX7_errors 31 = .ok (.iinc 2 1, 3) := by decide +kernel
theorem dX7_errors_34 : decode cX7_errors 34 = .ok (.goto (-30), 3) := by decide +kernel
theorem dX7_errors_37 : decode cX7_errors 37 = .ok (.iload_n 1, 1) := by decide +kernel
theorem dX7_errors_38 : decode cX7_errors 38 = .ok (.ireturn, 1) := by decide +kernel
theorem dX7_wrongIn_0 : decode cX7_wrongIn 0 = .ok (.iconst 0, 1) := by decide +kernel
theorem dX7_wrongIn_1 : decode cX7_wrongIn 1 = .ok (.istore_n 2, 1) := by decide +kernel
theorem dX7_wrongIn_2 : decode cX7_wrongIn 2 = .ok (.iconst 0, 1) := by decide +kernel
theorem dX7_wrongIn_3 : decode cX7_wrongIn 3 = .ok (.istore_n 3, 1) := by decide +kernel
theorem dX7_wrongIn_4 : decode cX7_wrongIn 4 = .ok (.iload_n 3, 1) := by decide +kernel
theorem dX7_wrongIn_5 : decode cX7_wrongIn 5 = .ok (.aload_n 0, 1) := by decide +kernel
theorem dX7_wrongIn_6 : decode cX7_wrongIn 6 = .ok (.iload_n 1, 1) := by decide +kernel
theorem dX7_wrongIn_7 : decode cX7_wrongIn 7 = .ok (.invokevirtual 40, 3) := by decide +kernel
theorem dX7_wrongIn_10 : decode cX7_wrongIn 10 = .ok (.if_icmp .ge 27, 3) := by decide +kernel
theorem dX7_wrongIn_13 : decode cX7_wrongIn 13 = .ok (.iload_n 2, 1) := by decide +kernel
theorem dX7_wrongIn_14 : decode cX7_wrongIn 14 = .ok (.aload_n 0, 1) := by decide +kernel
theorem dX7_wrongIn_15 : decode cX7_wrongIn 15 = .ok (.iload_n 1, 1) := by decide +kernel
theorem dX7_wrongIn_16 : decode cX7_wrongIn 16 = .ok (.iload_n 3, 1) := by decide +kernel
theorem dX7_wrongIn_17 : decode cX7_wrongIn 17 = .ok (.invokevirtual 44, 3) := by decide +kernel
theorem dX7_wrongIn_20 : decode cX7_wrongIn 20 = .ok (.iload_n 1, 1) := by decide +kernel
theorem dX7_wrongIn_21 : decode cX7_wrongIn 21 = .ok (.if_icmp .eq 7, 3) := by decide +kernel
theorem dX7_wrongIn_24 : decode cX7_wrongIn 24 = .ok (.iconst 1, 1) := by decide +kernel
theorem dX7_wrongIn_25 : decode cX7_wrongIn 25 = .ok (.goto 4, 3) := by decide +kernel
theorem dX7_wrongIn_28 : decode cX7_wrongIn 28 = .ok (.iconst 0, 1) := by decide +kernel
theorem dX7_wrongIn_29 : decode cX7_wrongIn 29 = .ok (.iadd, 1) := by decide +kernel
theorem dX7_wrongIn_30 : decode cX7_wrongIn 30 = .ok (.istore_n 2, 1) := by decide +kernel
theorem dX7_wrongIn_31 : decode cX7_wrongIn 31 = .ok (.iinc 3 1, 3) := by decide +kernel
theorem dX7_wrongIn_34 : decode cX7_wrongIn 34 = .ok (.goto (-30), 3) := by decide +kernel
theorem dX7_wrongIn_37 : decode cX7_wrongIn 37 = .ok (.iload_n 2, 1) := by decide +kernel
theorem dX7_wrongIn_38 : decode cX7_wrongIn 38 = .ok (.ireturn, 1) := by decide +kernel
theorem dX7_wrong_0 : decode cX7_wrong 0 = .ok (.iconst 0, 1) := by decide +kernel
theorem dX7_wrong_1 : decode cX7_wrong 1 = .ok (.istore_n 1, 1) := by decide +kernel
theorem dX7_wrong_2 : decode cX7_wrong 2 = .ok (.iconst 0, 1) := by decide +kernel
theorem dX7_wrong_3 : decode cX7_wrong 3 = .ok (.istore_n 2, 1) := by decide +kernel
theorem dX7_wrong_4 : decode cX7_wrong 4 = .ok (.iload_n 2, 1) := by decide +kernel
theorem dX7_wrong_5 : decode cX7_wrong 5 = .ok (.bipush 12, 2) := by decide +kernel
theorem dX7_wrong_7 : decode cX7_wrong 7 = .ok (.if_icmp .ge 17, 3) := by decide +kernel
theorem dX7_wrong_10 : decode cX7_wrong 10 = .ok (.iload_n 1, 1) := by decide +kernel
theorem dX7_wrong_11 : decode cX7_wrong 11 = .ok (.aload_n 0, 1) := by decide +kernel
theorem dX7_wrong_12 : decode cX7_wrong 12 = .ok (.iload_n 2, 1) := by decide +kernel
theorem dX7_wrong_13 : decode cX7_wrong 13 = .ok (.invokevirtual 61, 3) := by decide +kernel
theorem dX7_wrong_16 : decode cX7_wrong 16 = .ok (.iadd, 1) := by decide +kernel
theorem dX7_wrong_17 : decode cX7_wrong 17 = .ok (.istore_n 1, 1) := by decide +kernel
theorem dX7_wrong_18 : decode cX7_wrong 18 = .ok (.iinc 2 1, 3) := by decide +kernel
theorem dX7_wrong_21 : decode cX7_wrong 21 = .ok (.goto (-17), 3) := by decide +kernel
theorem dX7_wrong_24 : decode cX7_wrong 24 = .ok (.iload_n 1, 1) := by decide +kernel
theorem dX7_wrong_25 : decode cX7_wrong 25 = .ok (.ireturn, 1) := by decide +kernel
theorem dX7_inBoxes_0 : decode cX7_inBoxes 0 = .ok (.iconst 0, 1) := by decide +kernel
theorem dX7_inBoxes_1 : decode cX7_inBoxes 1 = .ok (.istore_n 1, 1) := by decide +kernel
theorem dX7_inBoxes_2 : decode cX7_inBoxes 2 = .ok (.iconst 0, 1) := by decide +kernel
theorem dX7_inBoxes_3 : decode cX7_inBoxes 3 = .ok (.istore_n 2, 1) := by decide +kernel
theorem dX7_inBoxes_4 : decode cX7_inBoxes 4 = .ok (.iload_n 2, 1) := by decide +kernel
theorem dX7_inBoxes_5 : decode cX7_inBoxes 5 = .ok (.bipush 12, 2) := by decide +kernel
theorem dX7_inBoxes_7 : decode cX7_inBoxes 7 = .ok (.if_icmp .ge 17, 3) := by decide +kernel
theorem dX7_inBoxes_10 : decode cX7_inBoxes 10 = .ok (.iload_n 1, 1) := by decide +kernel
theorem dX7_inBoxes_11 : decode cX7_inBoxes 11 = .ok (.aload_n 0, 1) := by decide +kernel
theorem dX7_inBoxes_12 : decode cX7_inBoxes 12 = .ok (.iload_n 2, 1) := by decide +kernel
theorem dX7_inBoxes_13 : decode cX7_inBoxes 13 = .ok (.invokevirtual 40, 3) := by decide +kernel
theorem dX7_inBoxes_16 : decode cX7_inBoxes 16 = .ok (.iadd, 1) := by decide +kernel
theorem dX7_inBoxes_17 : decode cX7_inBoxes 17 = .ok (.istore_n 1, 1) := by decide +kernel
theorem dX7_inBoxes_18 : decode cX7_inBoxes 18 = .ok (.iinc 2 1, 3) := by decide +kernel
theorem dX7_inBoxes_21 : decode cX7_inBoxes 21 = .ok (.goto (-17), 3) := by decide +kernel
theorem dX7_inBoxes_24 : decode cX7_inBoxes 24 = .ok (.iload_n 1, 1) := by decide +kernel
theorem dX7_inBoxes_25 : decode cX7_inBoxes 25 = .ok (.ireturn, 1) := by decide +kernel
theorem dX7_elsewhere_0 : decode cX7_elsewhere 0 = .ok (.iconst 0, 1) := by decide +kernel
theorem dX7_elsewhere_1 : decode cX7_elsewhere 1 = .ok (.istore_n 2, 1) := by decide +kernel
theorem dX7_elsewhere_2 : decode cX7_elsewhere 2 = .ok (.iconst 0, 1) := by decide +kernel
theorem dX7_elsewhere_3 : decode cX7_elsewhere 3 = .ok (.istore_n 3, 1) := by decide +kernel
theorem dX7_elsewhere_4 : decode cX7_elsewhere 4 = .ok (.iload_n 3, 1) := by decide +kernel
theorem dX7_elsewhere_5 : decode cX7_elsewhere 5 = .ok (.bipush 12, 2) := by decide +kernel
theorem dX7_elsewhere_7 : decode cX7_elsewhere 7 = .ok (.if_icmp .ge 52, 3) := by decide +kernel
theorem dX7_elsewhere_10 : decode cX7_elsewhere 10 = .ok (.iconst 0, 1) := by decide +kernel
theorem dX7_elsewhere_11 : decode cX7_elsewhere 11 = .ok (.istore 4, 2) := by decide +kernel
theorem dX7_elsewhere_13 : decode cX7_elsewhere 13 = .ok (.iload 4, 2) := by decide +kernel
theorem dX7_elsewhere_15 : decode cX7_elsewhere 15 = .ok (.aload_n 0, 1) := by decide +kernel
theorem dX7_elsewhere_16 : decode cX7_elsewhere 16 = .ok (.iload_n 3, 1) := by decide +kernel
theorem dX7_elsewhere_17 : decode cX7_elsewhere 17 = .ok (.invokevirtual 40, 3) := by decide +kernel
theorem dX7_elsewhere_20 : decode cX7_elsewhere 20 = .ok (.if_icmp .ge 33, 3) := by decide +kernel
theorem dX7_elsewhere_23 : decode cX7_elsewhere 23 = .ok (.iload_n 2, 1) := by decide +kernel
theorem dX7_elsewhere_24 : decode cX7_elsewhere 24 = .ok (.iload_n 3, 1) := by decide +kernel
theorem dX7_elsewhere_25 : decode cX7_elsewhere 25 = .ok (.iload_n 1, 1) := by decide +kernel
theorem dX7_elsewhere_26 : decode cX7_elsewhere 26 = .ok (.if_icmp .eq 18, 3) := by decide +kernel
theorem dX7_elsewhere_29 : decode cX7_elsewhere 29 = .ok (.aload_n 0, 1) := by decide +kernel
theorem dX7_elsewhere_30 : decode cX7_elsewhere 30 = .ok (.iload_n 3, 1) := by decide +kernel
theorem dX7_elsewhere_31 : decode cX7_elsewhere 31 = .ok (.iload 4, 2) := by decide +kernel
theorem dX7_elsewhere_33 : decode cX7_elsewhere 33 = .ok (.invokevirtual 44, 3) := by decide +kernel
theorem dX7_elsewhere_36 : decode cX7_elsewhere 36 = .ok (.iload_n 1, 1) := by decide +kernel
theorem dX7_elsewhere_37 : decode cX7_elsewhere 37 = .ok (.if_icmp .ne 7, 3) := by decide +kernel
theorem dX7_elsewhere_40 : decode cX7_elsewhere 40 = .ok (.iconst 1, 1) := by decide +kernel
theorem dX7_elsewhere_41 : decode cX7_elsewhere 41 = .ok (.goto 4, 3) := by decide +kernel
theorem dX7_elsewhere_44 : decode cX7_elsewhere 44 = .ok (.iconst 0, 1) := by decide +kernel
theorem dX7_elsewhere_45 : decode cX7_elsewhere 45 = .ok (.iadd, 1) := by decide +kernel
theorem dX7_elsewhere_46 : decode cX7_elsewhere 46 = .ok (.istore_n 2, 1) := by decide +kernel
theorem dX7_elsewhere_47 : decode cX7_elsewhere 47 = .ok (.iinc 4 1, 3) := by decide +kernel
theorem dX7_elsewhere_50 : decode cX7_elsewhere 50 = .ok (.goto (-37), 3) := by decide +kernel
theorem dX7_elsewhere_53 : decode cX7_elsewhere 53 = .ok (.iinc 3 1, 3) := by decide +kernel
theorem dX7_elsewhere_56 : decode cX7_elsewhere 56 = .ok (.goto (-52), 3) := by decide +kernel
theorem dX7_elsewhere_59 : decode cX7_elsewhere 59 = .ok (.iload_n 2, 1) := by decide +kernel
theorem dX7_elsewhere_60 : decode cX7_elsewhere 60 = .ok (.ireturn, 1) := by decide +kernel
theorem dX7_right_0 : decode cX7_right 0 = .ok (.iconst (-1), 1) := by decide +kernel
theorem dX7_right_1 : decode cX7_right 1 = .ok (.istore_n 2, 1) := by decide +kernel
theorem dX7_right_2 : decode cX7_right 2 = .ok (.iconst 0, 1) := by decide +kernel
theorem dX7_right_3 : decode cX7_right 3 = .ok (.istore_n 3, 1) := by decide +kernel
theorem dX7_right_4 : decode cX7_right 4 = .ok (.iload_n 3, 1) := by decide +kernel
theorem dX7_right_5 : decode cX7_right 5 = .ok (.aload_n 0, 1) := by decide +kernel
theorem dX7_right_6 : decode cX7_right 6 = .ok (.iload_n 1, 1) := by decide +kernel
theorem dX7_right_7 : decode cX7_right 7 = .ok (.invokevirtual 40, 3) := by decide +kernel
theorem dX7_right_10 : decode cX7_right 10 = .ok (.if_icmp .ge 25, 3) := by decide +kernel
theorem dX7_right_13 : decode cX7_right 13 = .ok (.aload_n 0, 1) := by decide +kernel
theorem dX7_right_14 : decode cX7_right 14 = .ok (.iload_n 1, 1) := by decide +kernel
theorem dX7_right_15 : decode cX7_right 15 = .ok (.iload_n 3, 1) := by decide +kernel
theorem dX7_right_16 : decode cX7_right 16 = .ok (.invokevirtual 44, 3) := by decide +kernel
theorem dX7_right_19 : decode cX7_right 19 = .ok (.iload_n 1, 1) := by decide +kernel
theorem dX7_right_20 : decode cX7_right 20 = .ok (.if_icmp .ne 7, 3) := by decide +kernel
theorem dX7_right_23 : decode cX7_right 23 = .ok (.iload_n 3, 1) := by decide +kernel
theorem dX7_right_24 : decode cX7_right 24 = .ok (.goto 4, 3) := by decide +kernel
theorem dX7_right_27 : decode cX7_right 27 = .ok (.iload_n 2, 1) := by decide +kernel
theorem dX7_right_28 : decode cX7_right 28 = .ok (.istore_n 2, 1) := by decide +kernel
theorem dX7_right_29 : decode cX7_right 29 = .ok (.iinc 3 1, 3) := by decide +kernel
theorem dX7_right_32 : decode cX7_right 32 = .ok (.goto (-28), 3) := by decide +kernel
theorem dX7_right_35 : decode cX7_right 35 = .ok (.iload_n 2, 1) := by decide +kernel
theorem dX7_right_36 : decode cX7_right 36 = .ok (.ireturn, 1) := by decide +kernel
theorem dX7_beatsOnce_0 : decode cX7_beatsOnce 0 = .ok (.aload_n 0, 1) := by decide +kernel
theorem dX7_beatsOnce_1 : decode cX7_beatsOnce 1 = .ok (.getfield 7, 3) := by decide +kernel
theorem dX7_beatsOnce_4 : decode cX7_beatsOnce 4 = .ok (.iconst 4, 1) := by decide +kernel
theorem dX7_beatsOnce_5 : decode cX7_beatsOnce 5 = .ok (.iaload, 1) := by decide +kernel
theorem dX7_beatsOnce_6 : decode cX7_beatsOnce 6 = .ok (.istore_n 1, 1) := by decide +kernel
theorem dX7_beatsOnce_7 : decode cX7_beatsOnce 7 = .ok (.aload_n 0, 1) := by decide +kernel
theorem dX7_beatsOnce_8 : decode cX7_beatsOnce 8 = .ok (.iload_n 1, 1) := by decide +kernel
theorem dX7_beatsOnce_9 : decode cX7_beatsOnce 9 = .ok (.invokevirtual 64, 3) := by decide +kernel
theorem dX7_beatsOnce_12 : decode cX7_beatsOnce 12 = .ok (.istore_n 2, 1) := by decide +kernel
theorem dX7_beatsOnce_13 : decode cX7_beatsOnce 13 = .ok (.iload_n 1, 1) := by decide +kernel
theorem dX7_beatsOnce_14 : decode cX7_beatsOnce 14 = .ok (.aload_n 0, 1) := by decide +kernel
theorem dX7_beatsOnce_15 : decode cX7_beatsOnce 15 = .ok (.getfield 7, 3) := by decide +kernel
theorem dX7_beatsOnce_18 : decode cX7_beatsOnce 18 = .ok (.iconst 3, 1) := by decide +kernel
theorem dX7_beatsOnce_19 : decode cX7_beatsOnce 19 = .ok (.iaload, 1) := by decide +kernel
theorem dX7_beatsOnce_20 : decode cX7_beatsOnce 20 = .ok (.if_icmp .eq 37, 3) := by decide +kernel
theorem dX7_beatsOnce_23 : decode cX7_beatsOnce 23 = .ok (.iload_n 2, 1) := by decide +kernel
theorem dX7_beatsOnce_24 : decode cX7_beatsOnce 24 = .ok (.iconst (-1), 1) := by decide +kernel
theorem dX7_beatsOnce_25 : decode cX7_beatsOnce 25 = .ok (.if_icmp .eq 32, 3) := by decide +kernel
theorem dX7_beatsOnce_28 : decode cX7_beatsOnce 28 = .ok (.iload_n 2, 1) := by decide +kernel
theorem dX7_beatsOnce_29 : decode cX7_beatsOnce 29 = .ok (.iload_n 1, 1) := by decide +kernel
theorem dX7_beatsOnce_30 : decode cX7_beatsOnce 30 = .ok (.if_icmp .eq 27, 3) := by decide +kernel
theorem dX7_beatsOnce_33 : decode cX7_beatsOnce 33 = .ok (.iload_n 2, 1) := by decide +kernel
theorem dX7_beatsOnce_34 : decode cX7_beatsOnce 34 = .ok (.aload_n 0, 1) := by decide +kernel
theorem dX7_beatsOnce_35 : decode cX7_beatsOnce 35 = .ok (.getfield 7, 3) := by decide +kernel
theorem dX7_beatsOnce_38 : decode cX7_beatsOnce 38 = .ok (.iconst 3, 1) := by decide +kernel
theorem dX7_beatsOnce_39 : decode cX7_beatsOnce 39 = .ok (.iaload, 1) := by decide +kernel
theorem dX7_beatsOnce_40 : decode cX7_beatsOnce 40 = .ok (.if_icmp .eq 17, 3) := by decide +kernel
theorem dX7_beatsOnce_43 : decode cX7_beatsOnce 43 = .ok (.aload_n 0, 1) := by decide +kernel
theorem dX7_beatsOnce_44 : decode cX7_beatsOnce 44 = .ok (.iload_n 2, 1) := by decide +kernel
theorem dX7_beatsOnce_45 : decode cX7_beatsOnce 45 = .ok (.invokevirtual 40, 3) := by decide +kernel
theorem dX7_beatsOnce_48 : decode cX7_beatsOnce 48 = .ok (.bipush 20, 2) := by decide +kernel
theorem dX7_beatsOnce_50 : decode cX7_beatsOnce 50 = .ok (.if_icmp .ge 7, 3) := by decide +kernel
theorem dX7_beatsOnce_53 : decode cX7_beatsOnce 53 = .ok (.iconst 1, 1) := by decide +kernel
theorem dX7_beatsOnce_54 : decode cX7_beatsOnce 54 = .ok (.goto 4, 3) := by decide +kernel
theorem dX7_beatsOnce_57 : decode cX7_beatsOnce 57 = .ok (.iconst 0, 1) := by decide +kernel
theorem dX7_beatsOnce_58 : decode cX7_beatsOnce 58 = .ok (.istore_n 3, 1) := by decide +kernel
theorem dX7_beatsOnce_59 : decode cX7_beatsOnce 59 = .ok (.iload_n 3, 1) := by decide +kernel
theorem dX7_beatsOnce_60 : decode cX7_beatsOnce 60 = .ok (.ifCond .eq 27, 3) := by decide +kernel
theorem dX7_beatsOnce_63 : decode cX7_beatsOnce 63 = .ok (.aload_n 0, 1) := by decide +kernel
theorem dX7_beatsOnce_64 : decode cX7_beatsOnce 64 = .ok (.iload_n 2, 1) := by decide +kernel
theorem dX7_beatsOnce_65 : decode cX7_beatsOnce 65 = .ok (.aload_n 0, 1) := by decide +kernel
theorem dX7_beatsOnce_66 : decode cX7_beatsOnce 66 = .ok (.iload_n 1, 1) := by decide +kernel
theorem dX7_beatsOnce_67 : decode cX7_beatsOnce 67 = .ok (.invokevirtual 67, 3) := by decide +kernel
theorem dX7_beatsOnce_70 : decode cX7_beatsOnce 70 = .ok (.invokevirtual 32, 3) := by decide +kernel
theorem dX7_beatsOnce_73 : decode cX7_beatsOnce 73 = .ok (.aload_n 0, 1) := by decide +kernel
theorem dX7_beatsOnce_74 : decode cX7_beatsOnce 74 = .ok (.getfield 7, 3) := by decide +kernel
theorem dX7_beatsOnce_77 : decode cX7_beatsOnce 77 = .ok (.bipush 6, 2) := by decide +kernel
theorem dX7_beatsOnce_79 : decode cX7_beatsOnce 79 = .ok (.dup2, 1) := by decide +kernel
theorem dX7_beatsOnce_80 : decode cX7_beatsOnce 80 = .ok (.iaload, 1) := by decide +kernel
theorem dX7_beatsOnce_81 : decode cX7_beatsOnce 81 = .ok (.iconst 1, 1) := by decide +kernel
theorem dX7_beatsOnce_82 : decode cX7_beatsOnce 82 = .ok (.iadd, 1) := by decide +kernel
theorem dX7_beatsOnce_83 : decode cX7_beatsOnce 83 = .ok (.iastore, 1) := by decide +kernel
theorem dX7_beatsOnce_84 : decode cX7_beatsOnce 84 = .ok (.goto 15, 3) := by decide +kernel
theorem dX7_beatsOnce_87 : decode cX7_beatsOnce 87 = .ok (.aload_n 0, 1) := by decide +kernel
theorem dX7_beatsOnce_88 : decode cX7_beatsOnce 88 = .ok (.getfield 7, 3) := by decide +kernel
theorem dX7_beatsOnce_91 : decode cX7_beatsOnce 91 = .ok (.iconst 4, 1) := by decide +kernel
theorem dX7_beatsOnce_92 : decode cX7_beatsOnce 92 = .ok (.iload_n 1, 1) := by decide +kernel
theorem dX7_beatsOnce_93 : decode cX7_beatsOnce 93 = .ok (.iconst 1, 1) := by decide +kernel
theorem dX7_beatsOnce_94 : decode cX7_beatsOnce 94 = .ok (.iadd, 1) := by decide +kernel
theorem dX7_beatsOnce_95 : decode cX7_beatsOnce 95 = .ok (.bipush 12, 2) := by decide +kernel
theorem dX7_beatsOnce_97 : decode cX7_beatsOnce 97 = .ok (.irem, 1) := by decide +kernel
theorem dX7_beatsOnce_98 : decode cX7_beatsOnce 98 = .ok (.iastore, 1) := by decide +kernel
theorem dX7_beatsOnce_99 : decode cX7_beatsOnce 99 = .ok (.aload_n 0, 1) := by decide +kernel
theorem dX7_beatsOnce_100 : decode cX7_beatsOnce 100 = .ok (.getfield 7, 3) := by decide +kernel
theorem dX7_beatsOnce_103 : decode cX7_beatsOnce 103 = .ok (.bipush 7, 2) := by decide +kernel
theorem dX7_beatsOnce_105 : decode cX7_beatsOnce 105 = .ok (.dup2, 1) := by decide +kernel
theorem dX7_beatsOnce_106 : decode cX7_beatsOnce 106 = .ok (.iaload, 1) := by decide +kernel
theorem dX7_beatsOnce_107 : decode cX7_beatsOnce 107 = .ok (.iconst 1, 1) := by decide +kernel
theorem dX7_beatsOnce_108 : decode cX7_beatsOnce 108 = .ok (.iadd, 1) := by decide +kernel
theorem dX7_beatsOnce_109 : decode cX7_beatsOnce 109 = .ok (.iastore, 1) := by decide +kernel
theorem dX7_beatsOnce_110 : decode cX7_beatsOnce 110 = .ok (.iload_n 3, 1) := by decide +kernel
theorem dX7_beatsOnce_111 : decode cX7_beatsOnce 111 = .ok (.ireturn, 1) := by decide +kernel
theorem dX7_beatsMany_0 : decode cX7_beatsMany 0 = .ok (.iconst 0, 1) := by decide +kernel
theorem dX7_beatsMany_1 : decode cX7_beatsMany 1 = .ok (.istore_n 2, 1) := by decide +kernel
theorem dX7_beatsMany_2 : decode cX7_beatsMany 2 = .ok (.iconst 0, 1) := by decide +kernel
theorem dX7_beatsMany_3 : decode cX7_beatsMany 3 = .ok (.istore_n 3, 1) := by decide +kernel
theorem dX7_beatsMany_4 : decode cX7_beatsMany 4 = .ok (.iload_n 3, 1) := by decide +kernel
theorem dX7_beatsMany_5 : decode cX7_beatsMany 5 = .ok (.iload_n 1, 1) := by decide +kernel
theorem dX7_beatsMany_6 : decode cX7_beatsMany 6 = .ok (.if_icmp .ge 24, 3) := by decide +kernel
theorem dX7_beatsMany_9 : decode cX7_beatsMany 9 = .ok (.iload_n 2, 1) := by decide +kernel
theorem dX7_beatsMany_10 : decode cX7_beatsMany 10 = .ok (.aload_n 0, 1) := by decide +kernel
theorem dX7_beatsMany_11 : decode cX7_beatsMany 11 = .ok (.invokevirtual 70, 3) := by decide +kernel
theorem dX7_beatsMany_14 : decode cX7_beatsMany 14 = .ok (.ifCond .eq 7, 3) := by decide +kernel
theorem dX7_beatsMany_17 : decode cX7_beatsMany 17 = .ok (.iconst 1, 1) := by decide +kernel
theorem dX7_beatsMany_18 : decode cX7_beatsMany 18 = .ok (.goto 4, 3) := by decide +kernel
theorem dX7_beatsMany_21 : decode cX7_beatsMany 21 = .ok (.iconst 0, 1) := by decide +kernel
theorem dX7_beatsMany_22 : decode cX7_beatsMany 22 = .ok (.iadd, 1) := by decide +kernel
theorem dX7_beatsMany_23 : decode cX7_beatsMany 23 = .ok (.istore_n 2, 1) := by decide +kernel
theorem dX7_beatsMany_24 : decode cX7_beatsMany 24 = .ok (.iinc 3 1, 3) := by decide +kernel
theorem dX7_beatsMany_27 : decode cX7_beatsMany 27 = .ok (.goto (-23), 3) := by decide +kernel
theorem dX7_beatsMany_30 : decode cX7_beatsMany 30 = .ok (.iload_n 2, 1) := by decide +kernel
theorem dX7_beatsMany_31 : decode cX7_beatsMany 31 = .ok (.ireturn, 1) := by decide +kernel
theorem dX7_refusesLetter_0 : decode cX7_refusesLetter 0 = .ok (.aload_n 0, 1) := by decide +kernel
theorem dX7_refusesLetter_1 : decode cX7_refusesLetter 1 = .ok (.iload_n 1, 1) := by decide +kernel
theorem dX7_refusesLetter_2 : decode cX7_refusesLetter 2 = .ok (.invokevirtual 64, 3) := by decide +kernel
theorem dX7_refusesLetter_5 : decode cX7_refusesLetter 5 = .ok (.istore_n 2, 1) := by decide +kernel
theorem dX7_refusesLetter_6 : decode cX7_refusesLetter 6 = .ok (.iload_n 2, 1) := by decide +kernel
theorem dX7_refusesLetter_7 : decode cX7_refusesLetter 7 = .ok (.iconst (-1), 1) := by decide +kernel
theorem dX7_refusesLetter_8 : decode cX7_refusesLetter 8 = .ok (.if_icmp .ne 5, 3) := by decide +kernel
theorem dX7_refusesLetter_11 : decode cX7_refusesLetter 11 = .ok (.iconst 1, 1) := by decide +kernel
theorem dX7_refusesLetter_12 : decode cX7_refusesLetter 12 = .ok (.ireturn, 1) := by decide +kernel
theorem dX7_refusesLetter_13 : decode cX7_refusesLetter 13 = .ok (.aload_n 0, 1) := by decide +kernel
theorem dX7_refusesLetter_14 : decode cX7_refusesLetter 14 = .ok (.invokevirtual 74, 3) := by decide +kernel
theorem dX7_refusesLetter_17 : decode cX7_refusesLetter 17 = .ok (.aload_n 0, 1) := by decide +kernel
theorem dX7_refusesLetter_18 : decode cX7_refusesLetter 18 = .ok (.getfield 7, 3) := by decide +kernel
theorem dX7_refusesLetter_21 : decode cX7_refusesLetter 21 = .ok (.bipush 12, 2) := by decide +kernel
theorem dX7_refusesLetter_23 : decode cX7_refusesLetter 23 = .ok (.iaload, 1) := by decide +kernel
theorem dX7_refusesLetter_24 : decode cX7_refusesLetter 24 = .ok (.ifCond .le 7, 3) := by decide +kernel
theorem dX7_refusesLetter_27 : decode cX7_refusesLetter 27 = .ok (.iconst 1, 1) := by decide +kernel
theorem dX7_refusesLetter_28 : decode cX7_refusesLetter 28 = .ok (.goto 4, 3) := by decide +kernel
theorem dX7_refusesLetter_31 : decode cX7_refusesLetter 31 = .ok (.iconst 0, 1) := by decide +kernel
theorem dX7_refusesLetter_32 : decode cX7_refusesLetter 32 = .ok (.iadd, 1) := by decide +kernel
theorem dX7_refusesLetter_33 : decode cX7_refusesLetter 33 = .ok (.iload_n 2, 1) := by decide +kernel
theorem dX7_refusesLetter_34 : decode cX7_refusesLetter 34 = .ok (.invokestatic 54, 3) := by decide +kernel
theorem dX7_refusesLetter_37 : decode cX7_refusesLetter 37 = .ok (.iadd, 1) := by decide +kernel
theorem dX7_refusesLetter_38 : decode cX7_refusesLetter 38 = .ok (.aload_n 0, 1) := by decide +kernel
theorem dX7_refusesLetter_39 : decode cX7_refusesLetter 39 = .ok (.getfield 7, 3) := by decide +kernel
theorem dX7_refusesLetter_42 : decode cX7_refusesLetter 42 = .ok (.iconst 0, 1) := by decide +kernel
theorem dX7_refusesLetter_43 : decode cX7_refusesLetter 43 = .ok (.iaload, 1) := by decide +kernel
theorem dX7_refusesLetter_44 : decode cX7_refusesLetter 44 = .ok (.if_icmp .le 7, 3) := by decide +kernel
theorem dX7_refusesLetter_47 : decode cX7_refusesLetter 47 = .ok (.iconst 2, 1) := by decide +kernel
theorem dX7_refusesLetter_48 : decode cX7_refusesLetter 48 = .ok (.goto 4, 3) := by decide +kernel
theorem dX7_refusesLetter_51 : decode cX7_refusesLetter 51 = .ok (.iconst 0, 1) := by decide +kernel
theorem dX7_refusesLetter_52 : decode cX7_refusesLetter 52 = .ok (.ireturn, 1) := by decide +kernel
theorem dX7_sets_0 : decode cX7_sets 0 = .ok (.aload_n 0, 1) := by decide +kernel
theorem dX7_sets_1 : decode cX7_sets 1 = .ok (.iload_n 1, 1) := by decide +kernel
theorem dX7_sets_2 : decode cX7_sets 2 = .ok (.invokevirtual 67, 3) := by decide +kernel
theorem dX7_sets_5 : decode cX7_sets 5 = .ok (.istore_n 2, 1) := by decide +kernel
theorem dX7_sets_6 : decode cX7_sets 6 = .ok (.aload_n 0, 1) := by decide +kernel
theorem dX7_sets_7 : decode cX7_sets 7 = .ok (.getfield 7, 3) := by decide +kernel
theorem dX7_sets_10 : decode cX7_sets 10 = .ok (.bipush 13, 2) := by decide +kernel
theorem dX7_sets_12 : decode cX7_sets 12 = .ok (.aload_n 0, 1) := by decide +kernel
theorem dX7_sets_13 : decode cX7_sets 13 = .ok (.getfield 7, 3) := by decide +kernel
theorem dX7_sets_16 : decode cX7_sets 16 = .ok (.bipush 12, 2) := by decide +kernel
theorem dX7_sets_18 : decode cX7_sets 18 = .ok (.iaload, 1) := by decide +kernel
theorem dX7_sets_19 : decode cX7_sets 19 = .ok (.iadd, 1) := by decide +kernel
theorem dX7_sets_20 : decode cX7_sets 20 = .ok (.iload_n 2, 1) := by decide +kernel
theorem dX7_sets_21 : decode cX7_sets 21 = .ok (.iastore, 1) := by decide +kernel
theorem dX7_sets_22 : decode cX7_sets 22 = .ok (.aload_n 0, 1) := by decide +kernel
theorem dX7_sets_23 : decode cX7_sets 23 = .ok (.getfield 7, 3) := by decide +kernel
theorem dX7_sets_26 : decode cX7_sets 26 = .ok (.bipush 54, 2) := by decide +kernel
theorem dX7_sets_28 : decode cX7_sets 28 = .ok (.aload_n 0, 1) := by decide +kernel
theorem dX7_sets_29 : decode cX7_sets 29 = .ok (.getfield 7, 3) := by decide +kernel
theorem dX7_sets_32 : decode cX7_sets 32 = .ok (.bipush 12, 2) := by decide +kernel
theorem dX7_sets_34 : decode cX7_sets 34 = .ok (.iaload, 1) := by decide +kernel
theorem dX7_sets_35 : decode cX7_sets 35 = .ok (.iadd, 1) := by decide +kernel
theorem dX7_sets_36 : decode cX7_sets 36 = .ok (.iload_n 1, 1) := by decide +kernel
theorem dX7_sets_37 : decode cX7_sets 37 = .ok (.iastore, 1) := by decide +kernel
theorem dX7_sets_38 : decode cX7_sets 38 = .ok (.aload_n 0, 1) := by decide +kernel
theorem dX7_sets_39 : decode cX7_sets 39 = .ok (.getfield 7, 3) := by decide +kernel
theorem dX7_sets_42 : decode cX7_sets 42 = .ok (.bipush 12, 2) := by decide +kernel
theorem dX7_sets_44 : decode cX7_sets 44 = .ok (.dup2, 1) := by decide +kernel
theorem dX7_sets_45 : decode cX7_sets 45 = .ok (.iaload, 1) := by decide +kernel
theorem dX7_sets_46 : decode cX7_sets 46 = .ok (.iconst 1, 1) := by decide +kernel
theorem dX7_sets_47 : decode cX7_sets 47 = .ok (.iadd, 1) := by decide +kernel
theorem dX7_sets_48 : decode cX7_sets 48 = .ok (.iastore, 1) := by decide +kernel
theorem dX7_sets_49 : decode cX7_sets 49 = .ok (.aload_n 0, 1) := by decide +kernel
theorem dX7_sets_50 : decode cX7_sets 50 = .ok (.getfield 7, 3) := by decide +kernel
theorem dX7_sets_53 : decode cX7_sets 53 = .ok (.iconst 5, 1) := by decide +kernel
theorem dX7_sets_54 : decode cX7_sets 54 = .ok (.dup2, 1) := by decide +kernel
theorem dX7_sets_55 : decode cX7_sets 55 = .ok (.iaload, 1) := by decide +kernel
theorem dX7_sets_56 : decode cX7_sets 56 = .ok (.iconst 1, 1) := by decide +kernel
theorem dX7_sets_57 : decode cX7_sets 57 = .ok (.iadd, 1) := by decide +kernel
theorem dX7_sets_58 : decode cX7_sets 58 = .ok (.iastore, 1) := by decide +kernel
theorem dX7_sets_59 : decode cX7_sets 59 = .ok (.aload_n 0, 1) := by decide +kernel
theorem dX7_sets_60 : decode cX7_sets 60 = .ok (.getfield 7, 3) := by decide +kernel
theorem dX7_sets_63 : decode cX7_sets 63 = .ok (.iconst 3, 1) := by decide +kernel
theorem dX7_sets_64 : decode cX7_sets 64 = .ok (.iload_n 1, 1) := by decide +kernel
theorem dX7_sets_65 : decode cX7_sets 65 = .ok (.iastore, 1) := by decide +kernel
theorem dX7_sets_66 : decode cX7_sets 66 = .ok (.aload_n 0, 1) := by decide +kernel
theorem dX7_sets_67 : decode cX7_sets 67 = .ok (.aload_n 0, 1) := by decide +kernel
theorem dX7_sets_68 : decode cX7_sets 68 = .ok (.getfield 7, 3) := by decide +kernel
theorem dX7_sets_71 : decode cX7_sets 71 = .ok (.iconst 1, 1) := by decide +kernel
theorem dX7_sets_72 : decode cX7_sets 72 = .ok (.iaload, 1) := by decide +kernel
theorem dX7_sets_73 : decode cX7_sets 73 = .ok (.invokevirtual 78, 3) := by decide +kernel
theorem dX7_sets_76 : decode cX7_sets 76 = .ok (.pop, 1) := by decide +kernel
theorem dX7_sets_77 : decode cX7_sets 77 = .ok (.iload_n 2, 1) := by decide +kernel
theorem dX7_sets_78 : decode cX7_sets 78 = .ok (.ireturn, 1) := by decide +kernel
theorem dX7_set_0 : decode cX7_set 0 = .ok (.aload_n 0, 1) := by decide +kernel
theorem dX7_set_1 : decode cX7_set 1 = .ok (.iconst 0, 1) := by decide +kernel
theorem dX7_set_2 : decode cX7_set 2 = .ok (.putfield 28, 3) := by decide +kernel
theorem dX7_set_5 : decode cX7_set 5 = .ok (.iload_n 1, 1) := by decide +kernel
theorem dX7_set_6 : decode cX7_set 6 = .ok (.invokestatic 81, 3) := by decide +kernel
theorem dX7_set_9 : decode cX7_set 9 = .ok (.ifCond .ne 9, 3) := by decide +kernel
theorem dX7_set_12 : decode cX7_set 12 = .ok (.aload_n 0, 1) := by decide +kernel
theorem dX7_set_13 : decode cX7_set 13 = .ok (.iconst 1, 1) := by decide +kernel
theorem dX7_set_14 : decode cX7_set 14 = .ok (.invokevirtual 84, 3) := by decide +kernel
theorem dX7_set_17 : decode cX7_set 17 = .ok (.ireturn, 1) := by decide +kernel
theorem dX7_set_18 : decode cX7_set 18 = .ok (.aload_n 0, 1) := by decide +kernel
theorem dX7_set_19 : decode cX7_set 19 = .ok (.iload_n 1, 1) := by decide +kernel
theorem dX7_set_20 : decode cX7_set 20 = .ok (.invokevirtual 87, 3) := by decide +kernel
theorem dX7_set_23 : decode cX7_set 23 = .ok (.ifCond .eq 9, 3) := by decide +kernel
theorem dX7_set_26 : decode cX7_set 26 = .ok (.aload_n 0, 1) := by decide +kernel
theorem dX7_set_27 : decode cX7_set 27 = .ok (.iconst 2, 1) := by decide +kernel
theorem dX7_set_28 : decode cX7_set 28 = .ok (.invokevirtual 84, 3) := by decide +kernel
theorem dX7_set_31 : decode cX7_set 31 = .ok (.ireturn, 1) := by decide +kernel
theorem dX7_set_32 : decode cX7_set 32 = .ok (.aload_n 0, 1) := by decide +kernel
theorem dX7_set_33 : decode cX7_set 33 = .ok (.invokevirtual 90, 3) := by decide +kernel
theorem dX7_set_36 : decode cX7_set 36 = .ok (.aload_n 0, 1) := by decide +kernel
theorem dX7_set_37 : decode cX7_set 37 = .ok (.iload_n 1, 1) := by decide +kernel
theorem dX7_set_38 : decode cX7_set 38 = .ok (.invokevirtual 93, 3) := by decide +kernel
theorem dX7_set_41 : decode cX7_set 41 = .ok (.ireturn, 1) := by decide +kernel
theorem dX7_idles_0 : decode cX7_idles 0 = .ok (.aload_n 0, 1) := by decide +kernel
theorem dX7_idles_1 : decode cX7_idles 1 = .ok (.getfield 7, 3) := by decide +kernel
theorem dX7_idles_4 : decode cX7_idles 4 = .ok (.iconst 3, 1) := by decide +kernel
theorem dX7_idles_5 : decode cX7_idles 5 = .ok (.iconst (-1), 1) := by decide +kernel
theorem dX7_idles_6 : decode cX7_idles 6 = .ok (.iastore, 1) := by decide +kernel
theorem dX7_idles_7 : decode cX7_idles 7 = .ok (.aload_n 0, 1) := by decide +kernel
theorem dX7_idles_8 : decode cX7_idles 8 = .ok (.iload_n 1, 1) := by decide +kernel
theorem dX7_idles_9 : decode cX7_idles 9 = .ok (.invokevirtual 78, 3) := by decide +kernel
theorem dX7_idles_12 : decode cX7_idles 12 = .ok (.ireturn, 1) := by decide +kernel
theorem dX7_idle_0 : decode cX7_idle 0 = .ok (.aload_n 0, 1) := by decide +kernel
theorem dX7_idle_1 : decode cX7_idle 1 = .ok (.iconst 0, 1) := by decide +kernel
theorem dX7_idle_2 : decode cX7_idle 2 = .ok (.putfield 28, 3) := by decide +kernel
theorem dX7_idle_5 : decode cX7_idle 5 = .ok (.iload_n 1, 1) := by decide +kernel
theorem dX7_idle_6 : decode cX7_idle 6 = .ok (.iconst 1, 1) := by decide +kernel
theorem dX7_idle_7 : decode cX7_idle 7 = .ok (.bipush 99, 2) := by decide +kernel
theorem dX7_idle_9 : decode cX7_idle 9 = .ok (.invokestatic 36, 3) := by decide +kernel
theorem dX7_idle_12 : decode cX7_idle 12 = .ok (.ifCond .ne 9, 3) := by decide +kernel
theorem dX7_idle_15 : decode cX7_idle 15 = .ok (.aload_n 0, 1) := by decide +kernel
theorem dX7_idle_16 : decode cX7_idle 16 = .ok (.iconst 1, 1) := by decide +kernel
theorem dX7_idle_17 : decode cX7_idle 17 = .ok (.invokevirtual 84, 3) := by decide +kernel
theorem dX7_idle_20 : decode cX7_idle 20 = .ok (.ireturn, 1) := by decide +kernel
theorem dX7_idle_21 : decode cX7_idle 21 = .ok (.aload_n 0, 1) := by decide +kernel
theorem dX7_idle_22 : decode cX7_idle 22 = .ok (.invokevirtual 90, 3) := by decide +kernel
theorem dX7_idle_25 : decode cX7_idle 25 = .ok (.aload_n 0, 1) := by decide +kernel
theorem dX7_idle_26 : decode cX7_idle 26 = .ok (.iload_n 1, 1) := by decide +kernel
theorem dX7_idle_27 : decode cX7_idle 27 = .ok (.invokevirtual 96, 3) := by decide +kernel
theorem dX7_idle_30 : decode cX7_idle 30 = .ok (.ireturn, 1) := by decide +kernel
theorem dX7_boxFor_0 : decode cX7_boxFor 0 = .ok (.aload_n 0, 1) := by decide +kernel
theorem dX7_boxFor_1 : decode cX7_boxFor 1 = .ok (.getfield 7, 3) := by decide +kernel
theorem dX7_boxFor_4 : decode cX7_boxFor 4 = .ok (.iconst 2, 1) := by decide +kernel
theorem dX7_boxFor_5 : decode cX7_boxFor 5 = .ok (.iaload, 1) := by decide +kernel
theorem dX7_boxFor_6 : decode cX7_boxFor 6 = .ok (.iconst 1, 1) := by decide +kernel
theorem dX7_boxFor_7 : decode cX7_boxFor 7 = .ok (.if_icmp .ne 15, 3) := by decide +kernel
theorem dX7_boxFor_10 : decode cX7_boxFor 10 = .ok (.aload_n 0, 1) := by decide +kernel
theorem dX7_boxFor_11 : decode cX7_boxFor 11 = .ok (.getfield 7, 3) := by decide +kernel
theorem dX7_boxFor_14 : decode cX7_boxFor 14 = .ok (.bipush 54, 2) := by decide +kernel
theorem dX7_boxFor_16 : decode cX7_boxFor 16 = .ok (.iload_n 1, 1) := by decide +kernel
theorem dX7_boxFor_17 : decode cX7_boxFor 17 = .ok (.iadd, 1) := by decide +kernel
theorem dX7_boxFor_18 : decode cX7_boxFor 18 = .ok (.iaload, 1) := by decide +kernel
theorem dX7_boxFor_19 : decode cX7_boxFor 19 = .ok (.goto 12, 3) := by decide +kernel
theorem dX7_boxFor_22 : decode cX7_boxFor 22 = .ok (.aload_n 0, 1) := by decide +kernel
theorem dX7_boxFor_23 : decode cX7_boxFor 23 = .ok (.getfield 7, 3) := by decide +kernel
theorem dX7_boxFor_26 : decode cX7_boxFor 26 = .ok (.bipush 13, 2) := by decide +kernel
theorem dX7_boxFor_28 : decode cX7_boxFor 28 = .ok (.iload_n 1, 1) := by decide +kernel
theorem dX7_boxFor_29 : decode cX7_boxFor 29 = .ok (.iadd, 1) := by decide +kernel
theorem dX7_boxFor_30 : decode cX7_boxFor 30 = .ok (.iaload, 1) := by decide +kernel
theorem dX7_boxFor_31 : decode cX7_boxFor 31 = .ok (.ireturn, 1) := by decide +kernel
theorem dX7_refusesFix_0 : decode cX7_refusesFix 0 = .ok (.aload_n 0, 1) := by decide +kernel
theorem dX7_refusesFix_1 : decode cX7_refusesFix 1 = .ok (.iload_n 1, 1) := by decide +kernel
theorem dX7_refusesFix_2 : decode cX7_refusesFix 2 = .ok (.invokevirtual 57, 3) := by decide +kernel
theorem dX7_refusesFix_5 : decode cX7_refusesFix 5 = .ok (.ifCond .ne 5, 3) := by decide +kernel
theorem dX7_refusesFix_8 : decode cX7_refusesFix 8 = .ok (.iconst 3, 1) := by decide +kernel
theorem dX7_refusesFix_9 : decode cX7_refusesFix 9 = .ok (.ireturn, 1) := by decide +kernel
theorem dX7_refusesFix_10 : decode cX7_refusesFix 10 = .ok (.aload_n 0, 1) := by decide +kernel
theorem dX7_refusesFix_11 : decode cX7_refusesFix 11 = .ok (.aload_n 0, 1) := by decide +kernel
theorem dX7_refusesFix_12 : decode cX7_refusesFix 12 = .ok (.getfield 7, 3) := by decide +kernel
theorem dX7_refusesFix_15 : decode cX7_refusesFix 15 = .ok (.bipush 54, 2) := by decide +kernel
theorem dX7_refusesFix_17 : decode cX7_refusesFix 17 = .ok (.iload_n 1, 1) := by decide +kernel
theorem dX7_refusesFix_18 : decode cX7_refusesFix 18 = .ok (.iadd, 1) := by decide +kernel
theorem dX7_refusesFix_19 : decode cX7_refusesFix 19 = .ok (.iaload, 1) := by decide +kernel
theorem dX7_refusesFix_20 : decode cX7_refusesFix 20 = .ok (.invokevirtual 99, 3) := by decide +kernel
theorem dX7_refusesFix_23 : decode cX7_refusesFix 23 = .ok (.iconst (-1), 1) := by decide +kernel
theorem dX7_refusesFix_24 : decode cX7_refusesFix 24 = .ok (.if_icmp .ne 7, 3) := by decide +kernel
theorem dX7_refusesFix_27 : decode cX7_refusesFix 27 = .ok (.iconst 4, 1) := by decide +kernel
theorem dX7_refusesFix_28 : decode cX7_refusesFix 28 = .ok (.goto 22, 3) := by decide +kernel
theorem dX7_refusesFix_31 : decode cX7_refusesFix 31 = .ok (.aload_n 0, 1) := by decide +kernel
theorem dX7_refusesFix_32 : decode cX7_refusesFix 32 = .ok (.aload_n 0, 1) := by decide +kernel
theorem dX7_refusesFix_33 : decode cX7_refusesFix 33 = .ok (.iload_n 1, 1) := by decide +kernel
theorem dX7_refusesFix_34 : decode cX7_refusesFix 34 = .ok (.invokevirtual 102, 3) := by decide +kernel
theorem dX7_refusesFix_37 : decode cX7_refusesFix 37 = .ok (.invokevirtual 40, 3) := by decide +kernel
theorem dX7_refusesFix_40 : decode cX7_refusesFix 40 = .ok (.bipush 20, 2) := by decide +kernel
theorem dX7_refusesFix_42 : decode cX7_refusesFix 42 = .ok (.if_icmp .ne 7, 3) := by decide +kernel
theorem dX7_refusesFix_45 : decode cX7_refusesFix 45 = .ok (.iconst 5, 1) := by decide +kernel
theorem dX7_refusesFix_46 : decode cX7_refusesFix 46 = .ok (.goto 4, 3) := by decide +kernel
theorem dX7_refusesFix_49 : decode cX7_refusesFix 49 = .ok (.iconst 0, 1) := by decide +kernel
theorem dX7_refusesFix_50 : decode cX7_refusesFix 50 = .ok (.ireturn, 1) := by decide +kernel
theorem dX7_fixes_0 : decode cX7_fixes 0 = .ok (.aload_n 0, 1) := by decide +kernel
theorem dX7_fixes_1 : decode cX7_fixes 1 = .ok (.getfield 7, 3) := by decide +kernel
theorem dX7_fixes_4 : decode cX7_fixes 4 = .ok (.bipush 54, 2) := by decide +kernel
theorem dX7_fixes_6 : decode cX7_fixes 6 = .ok (.iload_n 1, 1) := by decide +kernel
theorem dX7_fixes_7 : decode cX7_fixes 7 = .ok (.iadd, 1) := by decide +kernel
theorem dX7_fixes_8 : decode cX7_fixes 8 = .ok (.iaload, 1) := by decide +kernel
theorem dX7_fixes_9 : decode cX7_fixes 9 = .ok (.istore_n 2, 1) := by decide +kernel
theorem dX7_fixes_10 : decode cX7_fixes 10 = .ok (.aload_n 0, 1) := by decide +kernel
theorem dX7_fixes_11 : decode cX7_fixes 11 = .ok (.aload_n 0, 1) := by decide +kernel
theorem dX7_fixes_12 : decode cX7_fixes 12 = .ok (.iload_n 1, 1) := by decide +kernel
theorem dX7_fixes_13 : decode cX7_fixes 13 = .ok (.invokevirtual 102, 3) := by decide +kernel
theorem dX7_fixes_16 : decode cX7_fixes 16 = .ok (.aload_n 0, 1) := by decide +kernel
theorem dX7_fixes_17 : decode cX7_fixes 17 = .ok (.getfield 7, 3) := by decide +kernel
theorem dX7_fixes_20 : decode cX7_fixes 20 = .ok (.bipush 13, 2) := by decide +kernel
theorem dX7_fixes_22 : decode cX7_fixes 22 = .ok (.iload_n 1, 1) := by decide +kernel
theorem dX7_fixes_23 : decode cX7_fixes 23 = .ok (.iadd, 1) := by decide +kernel
theorem dX7_fixes_24 : decode cX7_fixes 24 = .ok (.iaload, 1) := by decide +kernel
theorem dX7_fixes_25 : decode cX7_fixes 25 = .ok (.invokevirtual 32, 3) := by decide +kernel
theorem dX7_fixes_28 : decode cX7_fixes 28 = .ok (.aload_n 0, 1) := by decide +kernel
theorem dX7_fixes_29 : decode cX7_fixes 29 = .ok (.getfield 7, 3) := by decide +kernel
theorem dX7_fixes_32 : decode cX7_fixes 32 = .ok (.bipush 13, 2) := by decide +kernel
theorem dX7_fixes_34 : decode cX7_fixes 34 = .ok (.iload_n 1, 1) := by decide +kernel
theorem dX7_fixes_35 : decode cX7_fixes 35 = .ok (.iadd, 1) := by decide +kernel
theorem dX7_fixes_36 : decode cX7_fixes 36 = .ok (.aload_n 0, 1) := by decide +kernel
theorem dX7_fixes_37 : decode cX7_fixes 37 = .ok (.iload_n 2, 1) := by decide +kernel
theorem dX7_fixes_38 : decode cX7_fixes 38 = .ok (.aload_n 0, 1) := by decide +kernel
theorem dX7_fixes_39 : decode cX7_fixes 39 = .ok (.iload_n 2, 1) := by decide +kernel
theorem dX7_fixes_40 : decode cX7_fixes 40 = .ok (.invokevirtual 99, 3) := by decide +kernel
theorem dX7_fixes_43 : decode cX7_fixes 43 = .ok (.invokevirtual 48, 3) := by decide +kernel
theorem dX7_fixes_46 : decode cX7_fixes 46 = .ok (.iastore, 1) := by decide +kernel
theorem dX7_fixes_47 : decode cX7_fixes 47 = .ok (.aload_n 0, 1) := by decide +kernel
theorem dX7_fixes_48 : decode cX7_fixes 48 = .ok (.getfield 7, 3) := by decide +kernel
theorem dX7_fixes_51 : decode cX7_fixes 51 = .ok (.bipush 8, 2) := by decide +kernel
theorem dX7_fixes_53 : decode cX7_fixes 53 = .ok (.dup2, 1) := by decide +kernel
theorem dX7_fixes_54 : decode cX7_fixes 54 = .ok (.iaload, 1) := by decide +kernel
theorem dX7_fixes_55 : decode cX7_fixes 55 = .ok (.iconst 1, 1) := by decide +kernel
theorem dX7_fixes_56 : decode cX7_fixes 56 = .ok (.iadd, 1) := by decide +kernel
theorem dX7_fixes_57 : decode cX7_fixes 57 = .ok (.iastore, 1) := by decide +kernel
theorem dX7_fixes_58 : decode cX7_fixes 58 = .ok (.aload_n 0, 1) := by decide +kernel
theorem dX7_fixes_59 : decode cX7_fixes 59 = .ok (.getfield 7, 3) := by decide +kernel
theorem dX7_fixes_62 : decode cX7_fixes 62 = .ok (.iconst 3, 1) := by decide +kernel
theorem dX7_fixes_63 : decode cX7_fixes 63 = .ok (.iconst (-1), 1) := by decide +kernel
theorem dX7_fixes_64 : decode cX7_fixes 64 = .ok (.iastore, 1) := by decide +kernel
theorem dX7_fixes_65 : decode cX7_fixes 65 = .ok (.aload_n 0, 1) := by decide +kernel
theorem dX7_fixes_66 : decode cX7_fixes 66 = .ok (.invokevirtual 105, 3) := by decide +kernel
theorem dX7_fixes_69 : decode cX7_fixes 69 = .ok (.ireturn, 1) := by decide +kernel
theorem dX7_isPlace_0 : decode cX7_isPlace 0 = .ok (.iload_n 1, 1) := by decide +kernel
theorem dX7_isPlace_1 : decode cX7_isPlace 1 = .ok (.iconst 0, 1) := by decide +kernel
theorem dX7_isPlace_2 : decode cX7_isPlace 2 = .ok (.aload_n 0, 1) := by decide +kernel
theorem dX7_isPlace_3 : decode cX7_isPlace 3 = .ok (.getfield 7, 3) := by decide +kernel
theorem dX7_isPlace_6 : decode cX7_isPlace 6 = .ok (.bipush 12, 2) := by decide +kernel
theorem dX7_isPlace_8 : decode cX7_isPlace 8 = .ok (.iaload, 1) := by decide +kernel
theorem dX7_isPlace_9 : decode cX7_isPlace 9 = .ok (.iconst 1, 1) := by decide +kernel
theorem dX7_isPlace_10 : decode cX7_isPlace 10 = .ok (.isub, 1) := by decide +kernel
theorem dX7_isPlace_11 : decode cX7_isPlace 11 = .ok (.invokestatic 36, 3) := by decide +kernel
theorem dX7_isPlace_14 : decode cX7_isPlace 14 = .ok (.ireturn, 1) := by decide +kernel
theorem dX7_fix_0 : decode cX7_fix 0 = .ok (.aload_n 0, 1) := by decide +kernel
theorem dX7_fix_1 : decode cX7_fix 1 = .ok (.iconst 0, 1) := by decide +kernel
theorem dX7_fix_2 : decode cX7_fix 2 = .ok (.putfield 28, 3) := by decide +kernel
theorem dX7_fix_5 : decode cX7_fix 5 = .ok (.aload_n 0, 1) := by decide +kernel
theorem dX7_fix_6 : decode cX7_fix 6 = .ok (.iload_n 1, 1) := by decide +kernel
theorem dX7_fix_7 : decode cX7_fix 7 = .ok (.invokevirtual 108, 3) := by decide +kernel
theorem dX7_fix_10 : decode cX7_fix 10 = .ok (.ifCond .ne 9, 3) := by decide +kernel
theorem dX7_fix_13 : decode cX7_fix 13 = .ok (.aload_n 0, 1) := by decide +kernel
theorem dX7_fix_14 : decode cX7_fix 14 = .ok (.iconst 1, 1) := by decide +kernel
theorem dX7_fix_15 : decode cX7_fix 15 = .ok (.invokevirtual 84, 3) := by decide +kernel
theorem dX7_fix_18 : decode cX7_fix 18 = .ok (.ireturn, 1) := by decide +kernel
theorem dX7_fix_19 : decode cX7_fix 19 = .ok (.aload_n 0, 1) := by decide +kernel
theorem dX7_fix_20 : decode cX7_fix 20 = .ok (.iload_n 1, 1) := by decide +kernel
theorem dX7_fix_21 : decode cX7_fix 21 = .ok (.invokevirtual 111, 3) := by decide +kernel
theorem dX7_fix_24 : decode cX7_fix 24 = .ok (.ifCond .eq 9, 3) := by decide +kernel
theorem dX7_fix_27 : decode cX7_fix 27 = .ok (.aload_n 0, 1) := by decide +kernel
theorem dX7_fix_28 : decode cX7_fix 28 = .ok (.iconst 2, 1) := by decide +kernel
theorem dX7_fix_29 : decode cX7_fix 29 = .ok (.invokevirtual 84, 3) := by decide +kernel
theorem dX7_fix_32 : decode cX7_fix 32 = .ok (.ireturn, 1) := by decide +kernel
theorem dX7_fix_33 : decode cX7_fix 33 = .ok (.aload_n 0, 1) := by decide +kernel
theorem dX7_fix_34 : decode cX7_fix 34 = .ok (.invokevirtual 90, 3) := by decide +kernel
theorem dX7_fix_37 : decode cX7_fix 37 = .ok (.aload_n 0, 1) := by decide +kernel
theorem dX7_fix_38 : decode cX7_fix 38 = .ok (.iload_n 1, 1) := by decide +kernel
theorem dX7_fix_39 : decode cX7_fix 39 = .ok (.invokevirtual 114, 3) := by decide +kernel
theorem dX7_fix_42 : decode cX7_fix 42 = .ok (.ireturn, 1) := by decide +kernel
theorem dX7_canReturn_0 : decode cX7_canReturn 0 = .ok (.iconst 1, 1) := by decide +kernel
theorem dX7_canReturn_1 : decode cX7_canReturn 1 = .ok (.istore_n 1, 1) := by decide +kernel
theorem dX7_canReturn_2 : decode cX7_canReturn 2 = .ok (.iconst 0, 1) := by decide +kernel
theorem dX7_canReturn_3 : decode cX7_canReturn 3 = .ok (.istore_n 2, 1) := by decide +kernel
theorem dX7_canReturn_4 : decode cX7_canReturn 4 = .ok (.iload_n 2, 1) := by decide +kernel
theorem dX7_canReturn_5 : decode cX7_canReturn 5 = .ok (.bipush 12, 2) := by decide +kernel
theorem dX7_canReturn_7 : decode cX7_canReturn 7 = .ok (.if_icmp .ge 70, 3) := by decide +kernel
theorem dX7_canReturn_10 : decode cX7_canReturn 10 = .ok (.aload_n 0, 1) := by decide +kernel
theorem dX7_canReturn_11 : decode cX7_canReturn 11 = .ok (.iload_n 2, 1) := by decide +kernel
theorem dX7_canReturn_12 : decode cX7_canReturn 12 = .ok (.invokevirtual 40, 3) := by decide +kernel
theorem dX7_canReturn_15 : decode cX7_canReturn 15 = .ok (.istore_n 3, 1) := by decide +kernel
theorem dX7_canReturn_16 : decode cX7_canReturn 16 = .ok (.iconst 0, 1) := by decide +kernel
theorem dX7_canReturn_17 : decode cX7_canReturn 17 = .ok (.istore 4, 2) := by decide +kernel
theorem dX7_canReturn_19 : decode cX7_canReturn 19 = .ok (.iload 4, 2) := by decide +kernel
theorem dX7_canReturn_21 : decode cX7_canReturn 21 = .ok (.aload_n 0, 1) := by decide +kernel
theorem dX7_canReturn_22 : decode cX7_canReturn 22 = .ok (.getfield 7, 3) := by decide +kernel
theorem dX7_canReturn_25 : decode cX7_canReturn 25 = .ok (.bipush 12, 2) := by decide +kernel
theorem dX7_canReturn_27 : decode cX7_canReturn 27 = .ok (.iaload, 1) := by decide +kernel
theorem dX7_canReturn_28 : decode cX7_canReturn 28 = .ok (.if_icmp .ge 27, 3) := by decide +kernel
theorem dX7_canReturn_31 : decode cX7_canReturn 31 = .ok (.iload_n 3, 1) := by decide +kernel
theorem dX7_canReturn_32 : decode cX7_canReturn 32 = .ok (.aload_n 0, 1) := by decide +kernel
theorem dX7_canReturn_33 : decode cX7_canReturn 33 = .ok (.iload 4, 2) := by decide +kernel
theorem dX7_canReturn_35 : decode cX7_canReturn 35 = .ok (.invokevirtual 102, 3) := by decide +kernel
theorem dX7_canReturn_38 : decode cX7_canReturn 38 = .ok (.iload_n 2, 1) := by decide +kernel
theorem dX7_canReturn_39 : decode cX7_canReturn 39 = .ok (.if_icmp .ne 7, 3) := by decide +kernel
theorem dX7_canReturn_42 : decode cX7_canReturn 42 = .ok (.iconst 1, 1) := by decide +kernel
theorem dX7_canReturn_43 : decode cX7_canReturn 43 = .ok (.goto 4, 3) := by decide +kernel
theorem dX7_canReturn_46 : decode cX7_canReturn 46 = .ok (.iconst 0, 1) := by decide +kernel
theorem dX7_canReturn_47 : decode cX7_canReturn 47 = .ok (.iadd, 1) := by decide +kernel
theorem dX7_canReturn_48 : decode cX7_canReturn 48 = .ok (.istore_n 3, 1) := by decide +kernel
theorem dX7_canReturn_49 : decode cX7_canReturn 49 = .ok (.iinc 4 1, 3) := by decide +kernel
theorem dX7_canReturn_52 : decode cX7_canReturn 52 = .ok (.goto (-33), 3) := by decide +kernel
theorem dX7_canReturn_55 : decode cX7_canReturn 55 = .ok (.iload_n 1, 1) := by decide +kernel
theorem dX7_canReturn_56 : decode cX7_canReturn 56 = .ok (.ifCond .eq 13, 3) := by decide +kernel
theorem dX7_canReturn_59 : decode cX7_canReturn 59 = .ok (.iload_n 3, 1) := by decide +kernel
theorem dX7_canReturn_60 : decode cX7_canReturn 60 = .ok (.bipush 20, 2) := by decide +kernel
theorem dX7_canReturn_62 : decode cX7_canReturn 62 = .ok (.if_icmp .gt 7, 3) := by decide +kernel
theorem dX7_canReturn_65 : decode cX7_canReturn 65 = .ok (.iconst 1, 1) := by decide +kernel
theorem dX7_canReturn_66 : decode cX7_canReturn 66 = .ok (.goto 4, 3) := by decide +kernel
theorem dX7_canReturn_69 : decode cX7_canReturn 69 = .ok (.iconst 0, 1) := by decide +kernel
theorem dX7_canReturn_70 : decode cX7_canReturn 70 = .ok (.istore_n 1, 1) := by decide +kernel
theorem dX7_canReturn_71 : decode cX7_canReturn 71 = .ok (.iinc 2 1, 3) := by decide +kernel
theorem dX7_canReturn_74 : decode cX7_canReturn 74 = .ok (.goto (-70), 3) := by decide +kernel
theorem dX7_canReturn_77 : decode cX7_canReturn 77 = .ok (.iload_n 1, 1) := by decide +kernel
theorem dX7_canReturn_78 : decode cX7_canReturn 78 = .ok (.ireturn, 1) := by decide +kernel
theorem dX7_returns_0 : decode cX7_returns 0 = .ok (.aload_n 0, 1) := by decide +kernel
theorem dX7_returns_1 : decode cX7_returns 1 = .ok (.getfield 7, 3) := by decide +kernel
theorem dX7_returns_4 : decode cX7_returns 4 = .ok (.bipush 12, 2) := by decide +kernel
theorem dX7_returns_6 : decode cX7_returns 6 = .ok (.iaload, 1) := by decide +kernel
theorem dX7_returns_7 : decode cX7_returns 7 = .ok (.iconst 1, 1) := by decide +kernel
theorem dX7_returns_8 : decode cX7_returns 8 = .ok (.isub, 1) := by decide +kernel
theorem dX7_returns_9 : decode cX7_returns 9 = .ok (.istore_n 1, 1) := by decide +kernel
theorem dX7_returns_10 : decode cX7_returns 10 = .ok (.iload_n 1, 1) := by decide +kernel
theorem dX7_returns_11 : decode cX7_returns 11 = .ok (.ifCond .lt 27, 3) := by decide +kernel
theorem dX7_returns_14 : decode cX7_returns 14 = .ok (.aload_n 0, 1) := by decide +kernel
theorem dX7_returns_15 : decode cX7_returns 15 = .ok (.aload_n 0, 1) := by decide +kernel
theorem dX7_returns_16 : decode cX7_returns 16 = .ok (.iload_n 1, 1) := by decide +kernel
theorem dX7_returns_17 : decode cX7_returns 17 = .ok (.invokevirtual 102, 3) := by decide +kernel
theorem dX7_returns_20 : decode cX7_returns 20 = .ok (.aload_n 0, 1) := by decide +kernel
theorem dX7_returns_21 : decode cX7_returns 21 = .ok (.getfield 7, 3) := by decide +kernel
theorem dX7_returns_24 : decode cX7_returns 24 = .ok (.bipush 13, 2) := by decide +kernel
theorem dX7_returns_26 : decode cX7_returns 26 = .ok (.iload_n 1, 1) := by decide +kernel
theorem dX7_returns_27 : decode cX7_returns 27 = .ok (.iadd, 1) := by decide +kernel
theorem dX7_returns_28 : decode cX7_returns 28 = .ok (.iaload, 1) := by decide +kernel
theorem dX7_returns_29 : decode cX7_returns 29 = .ok (.invokevirtual 32, 3) := by decide +kernel
theorem dX7_returns_32 : decode cX7_returns 32 = .ok (.iinc 1 (-1), 3) := by decide +kernel
theorem dX7_returns_35 : decode cX7_returns 35 = .ok (.goto (-25), 3) := by decide +kernel
theorem dX7_returns_38 : decode cX7_returns 38 = .ok (.iconst 0, 1) := by decide +kernel
theorem dX7_returns_39 : decode cX7_returns 39 = .ok (.istore_n 1, 1) := by decide +kernel
theorem dX7_returns_40 : decode cX7_returns 40 = .ok (.iload_n 1, 1) := by decide +kernel
theorem dX7_returns_41 : decode cX7_returns 41 = .ok (.bipush 41, 2) := by decide +kernel
theorem dX7_returns_43 : decode cX7_returns 43 = .ok (.if_icmp .ge 29, 3) := by decide +kernel
theorem dX7_returns_46 : decode cX7_returns 46 = .ok (.aload_n 0, 1) := by decide +kernel
theorem dX7_returns_47 : decode cX7_returns 47 = .ok (.getfield 7, 3) := by decide +kernel
theorem dX7_returns_50 : decode cX7_returns 50 = .ok (.bipush 13, 2) := by decide +kernel
theorem dX7_returns_52 : decode cX7_returns 52 = .ok (.iload_n 1, 1) := by decide +kernel
theorem dX7_returns_53 : decode cX7_returns 53 = .ok (.iadd, 1) := by decide +kernel
theorem dX7_returns_54 : decode cX7_returns 54 = .ok (.iconst 0, 1) := by decide +kernel
theorem dX7_returns_55 : decode cX7_returns 55 = .ok (.iastore, 1) := by decide +kernel
theorem dX7_returns_56 : decode cX7_returns 56 = .ok (.aload_n 0, 1) := by decide +kernel
theorem dX7_returns_57 : decode cX7_returns 57 = .ok (.getfield 7, 3) := by decide +kernel
theorem dX7_returns_60 : decode cX7_returns 60 = .ok (.bipush 54, 2) := by decide +kernel
theorem dX7_returns_62 : decode cX7_returns 62 = .ok (.iload_n 1, 1) := by decide +kernel
theorem dX7_returns_63 : decode cX7_returns 63 = .ok (.iadd, 1) := by decide +kernel
theorem dX7_returns_64 : decode cX7_returns 64 = .ok (.iconst 0, 1) := by decide +kernel
theorem dX7_returns_65 : decode cX7_returns 65 = .ok (.iastore, 1) := by decide +kernel
theorem dX7_returns_66 : decode cX7_returns 66 = .ok (.iinc 1 1, 3) := by decide +kernel
theorem dX7_returns_69 : decode cX7_returns 69 = .ok (.goto (-29), 3) := by decide +kernel
theorem dX7_returns_72 : decode cX7_returns 72 = .ok (.aload_n 0, 1) := by decide +kernel
theorem dX7_returns_73 : decode cX7_returns 73 = .ok (.getfield 7, 3) := by decide +kernel
theorem dX7_returns_76 : decode cX7_returns 76 = .ok (.bipush 12, 2) := by decide +kernel
theorem dX7_returns_78 : decode cX7_returns 78 = .ok (.iconst 0, 1) := by decide +kernel
theorem dX7_returns_79 : decode cX7_returns 79 = .ok (.iastore, 1) := by decide +kernel
theorem dX7_returns_80 : decode cX7_returns 80 = .ok (.aload_n 0, 1) := by decide +kernel
theorem dX7_returns_81 : decode cX7_returns 81 = .ok (.getfield 7, 3) := by decide +kernel
theorem dX7_returns_84 : decode cX7_returns 84 = .ok (.bipush 9, 2) := by decide +kernel
theorem dX7_returns_86 : decode cX7_returns 86 = .ok (.dup2, 1) := by decide +kernel
theorem dX7_returns_87 : decode cX7_returns 87 = .ok (.iaload, 1) := by decide +kernel
theorem dX7_returns_88 : decode cX7_returns 88 = .ok (.iconst 1, 1) := by decide +kernel
theorem dX7_returns_89 : decode cX7_returns 89 = .ok (.iadd, 1) := by decide +kernel
theorem dX7_returns_90 : decode cX7_returns 90 = .ok (.iastore, 1) := by decide +kernel
theorem dX7_returns_91 : decode cX7_returns 91 = .ok (.aload_n 0, 1) := by decide +kernel
theorem dX7_returns_92 : decode cX7_returns 92 = .ok (.getfield 7, 3) := by decide +kernel
theorem dX7_returns_95 : decode cX7_returns 95 = .ok (.iconst 3, 1) := by decide +kernel
theorem dX7_returns_96 : decode cX7_returns 96 = .ok (.iconst (-1), 1) := by decide +kernel
theorem dX7_returns_97 : decode cX7_returns 97 = .ok (.iastore, 1) := by decide +kernel
theorem dX7_returns_98 : decode cX7_returns 98 = .ok (.aload_n 0, 1) := by decide +kernel
theorem dX7_returns_99 : decode cX7_returns 99 = .ok (.invokevirtual 117, 3) := by decide +kernel
theorem dX7_returns_102 : decode cX7_returns 102 = .ok (.ireturn, 1) := by decide +kernel
theorem dX7_back_0 : decode cX7_back 0 = .ok (.aload_n 0, 1) := by decide +kernel
theorem dX7_back_1 : decode cX7_back 1 = .ok (.iconst 0, 1) := by decide +kernel
theorem dX7_back_2 : decode cX7_back 2 = .ok (.putfield 28, 3) := by decide +kernel
theorem dX7_back_5 : decode cX7_back 5 = .ok (.aload_n 0, 1) := by decide +kernel
theorem dX7_back_6 : decode cX7_back 6 = .ok (.invokevirtual 120, 3) := by decide +kernel
theorem dX7_back_9 : decode cX7_back 9 = .ok (.ifCond .ne 9, 3) := by decide +kernel
theorem dX7_back_12 : decode cX7_back 12 = .ok (.aload_n 0, 1) := by decide +kernel
theorem dX7_back_13 : decode cX7_back 13 = .ok (.iconst 1, 1) := by decide +kernel
theorem dX7_back_14 : decode cX7_back 14 = .ok (.invokevirtual 84, 3) := by decide +kernel
theorem dX7_back_17 : decode cX7_back 17 = .ok (.ireturn, 1) := by decide +kernel
theorem dX7_back_18 : decode cX7_back 18 = .ok (.aload_n 0, 1) := by decide +kernel
theorem dX7_back_19 : decode cX7_back 19 = .ok (.invokevirtual 90, 3) := by decide +kernel
theorem dX7_back_22 : decode cX7_back 22 = .ok (.aload_n 0, 1) := by decide +kernel
theorem dX7_back_23 : decode cX7_back 23 = .ok (.invokevirtual 123, 3) := by decide +kernel
theorem dX7_back_26 : decode cX7_back 26 = .ok (.ireturn, 1) := by decide +kernel
theorem dX7_swaps_0 : decode cX7_swaps 0 = .ok (.aload_n 0, 1) := by decide +kernel
theorem dX7_swaps_1 : decode cX7_swaps 1 = .ok (.getfield 7, 3) := by decide +kernel
theorem dX7_swaps_4 : decode cX7_swaps 4 = .ok (.iconst 3, 1) := by decide +kernel
theorem dX7_swaps_5 : decode cX7_swaps 5 = .ok (.iconst (-1), 1) := by decide +kernel
theorem dX7_swaps_6 : decode cX7_swaps 6 = .ok (.iastore, 1) := by decide +kernel
theorem dX7_swaps_7 : decode cX7_swaps 7 = .ok (.iload_n 1, 1) := by decide +kernel
theorem dX7_swaps_8 : decode cX7_swaps 8 = .ok (.iload_n 2, 1) := by decide +kernel
theorem dX7_swaps_9 : decode cX7_swaps 9 = .ok (.if_icmp .eq 64, 3) := by decide +kernel
theorem dX7_swaps_12 : decode cX7_swaps 12 = .ok (.aload_n 0, 1) := by decide +kernel
theorem dX7_swaps_13 : decode cX7_swaps 13 = .ok (.iload_n 1, 1) := by decide +kernel
theorem dX7_swaps_14 : decode cX7_swaps 14 = .ok (.invokevirtual 40, 3) := by decide +kernel
theorem dX7_swaps_17 : decode cX7_swaps 17 = .ok (.ifCond .le 11, 3) := by decide +kernel
theorem dX7_swaps_20 : decode cX7_swaps 20 = .ok (.aload_n 0, 1) := by decide +kernel
theorem dX7_swaps_21 : decode cX7_swaps 21 = .ok (.iload_n 1, 1) := by decide +kernel
theorem dX7_swaps_22 : decode cX7_swaps 22 = .ok (.invokevirtual 67, 3) := by decide +kernel
theorem dX7_swaps_25 : decode cX7_swaps 25 = .ok (.goto 4, 3) := by decide +kernel
theorem dX7_swaps_28 : decode cX7_swaps 28 = .ok (.iconst (-1), 1) := by decide +kernel
theorem dX7_swaps_29 : decode cX7_swaps 29 = .ok (.istore_n 3, 1) := by decide +kernel
theorem dX7_swaps_30 : decode cX7_swaps 30 = .ok (.aload_n 0, 1) := by decide +kernel
theorem dX7_swaps_31 : decode cX7_swaps 31 = .ok (.iload_n 2, 1) := by decide +kernel
theorem dX7_swaps_32 : decode cX7_swaps 32 = .ok (.invokevirtual 40, 3) := by decide +kernel
theorem dX7_swaps_35 : decode cX7_swaps 35 = .ok (.ifCond .le 11, 3) := by decide +kernel
theorem dX7_swaps_38 : decode cX7_swaps 38 = .ok (.aload_n 0, 1) := by decide +kernel
theorem dX7_swaps_39 : decode cX7_swaps 39 = .ok (.iload_n 2, 1) := by decide +kernel
theorem dX7_swaps_40 : decode cX7_swaps 40 = .ok (.invokevirtual 67, 3) := by decide +kernel
theorem dX7_swaps_43 : decode cX7_swaps 43 = .ok (.goto 4, 3) := by decide +kernel
theorem dX7_swaps_46 : decode cX7_swaps 46 = .ok (.iconst (-1), 1) := by decide +kernel
theorem dX7_swaps_47 : decode cX7_swaps 47 = .ok (.istore 4, 2) := by decide +kernel
theorem dX7_swaps_49 : decode cX7_swaps 49 = .ok (.iload_n 3, 1) := by decide +kernel
theorem dX7_swaps_50 : decode cX7_swaps 50 = .ok (.iconst (-1), 1) := by decide +kernel
theorem dX7_swaps_51 : decode cX7_swaps 51 = .ok (.if_icmp .eq 9, 3) := by decide +kernel
theorem dX7_swaps_54 : decode cX7_swaps 54 = .ok (.aload_n 0, 1) := by decide +kernel
theorem dX7_swaps_55 : decode cX7_swaps 55 = .ok (.iload_n 2, 1) := by decide +kernel
theorem dX7_swaps_56 : decode cX7_swaps 56 = .ok (.iload_n 3, 1) := by decide +kernel
theorem dX7_swaps_57 : decode cX7_swaps 57 = .ok (.invokevirtual 32, 3) := by decide +kernel
theorem dX7_swaps_60 : decode cX7_swaps 60 = .ok (.iload 4, 2) := by decide +kernel
theorem dX7_swaps_62 : decode cX7_swaps 62 = .ok (.iconst (-1), 1) := by decide +kernel
theorem dX7_swaps_63 : decode cX7_swaps 63 = .ok (.if_icmp .eq 10, 3) := by decide +kernel
theorem dX7_swaps_66 : decode cX7_swaps 66 = .ok (.aload_n 0, 1) := by decide +kernel
theorem dX7_swaps_67 : decode cX7_swaps 67 = .ok (.iload_n 1, 1) := by decide +kernel
theorem dX7_swaps_68 : decode cX7_swaps 68 = .ok (.iload 4, 2) := by decide +kernel
theorem dX7_swaps_70 : decode cX7_swaps 70 = .ok (.invokevirtual 32, 3) := by decide +kernel
theorem dX7_swaps_73 : decode cX7_swaps 73 = .ok (.aload_n 0, 1) := by decide +kernel
theorem dX7_swaps_74 : decode cX7_swaps 74 = .ok (.invokevirtual 117, 3) := by decide +kernel
theorem dX7_swaps_77 : decode cX7_swaps 77 = .ok (.ireturn, 1) := by decide +kernel
theorem dX7_swap_0 : decode cX7_swap 0 = .ok (.aload_n 0, 1) := by decide +kernel
theorem dX7_swap_1 : decode cX7_swap 1 = .ok (.iconst 0, 1) := by decide +kernel
theorem dX7_swap_2 : decode cX7_swap 2 = .ok (.putfield 28, 3) := by decide +kernel
theorem dX7_swap_5 : decode cX7_swap 5 = .ok (.iload_n 1, 1) := by decide +kernel
theorem dX7_swap_6 : decode cX7_swap 6 = .ok (.invokestatic 81, 3) := by decide +kernel
theorem dX7_swap_9 : decode cX7_swap 9 = .ok (.ifCond .eq 10, 3) := by decide +kernel
theorem dX7_swap_12 : decode cX7_swap 12 = .ok (.iload_n 2, 1) := by decide +kernel
theorem dX7_swap_13 : decode cX7_swap 13 = .ok (.invokestatic 81, 3) := by decide +kernel
theorem dX7_swap_16 : decode cX7_swap 16 = .ok (.ifCond .ne 9, 3) := by decide +kernel
theorem dX7_swap_19 : decode cX7_swap 19 = .ok (.aload_n 0, 1) := by decide +kernel
theorem dX7_swap_20 : decode cX7_swap 20 = .ok (.iconst 1, 1) := by decide +kernel
theorem dX7_swap_21 : decode cX7_swap 21 = .ok (.invokevirtual 84, 3) := by decide +kernel
theorem dX7_swap_24 : decode cX7_swap 24 = .ok (.ireturn, 1) := by decide +kernel
theorem dX7_swap_25 : decode cX7_swap 25 = .ok (.aload_n 0, 1) := by decide +kernel
theorem dX7_swap_26 : decode cX7_swap 26 = .ok (.invokevirtual 90, 3) := by decide +kernel
theorem dX7_swap_29 : decode cX7_swap 29 = .ok (.aload_n 0, 1) := by decide +kernel
theorem dX7_swap_30 : decode cX7_swap 30 = .ok (.iload_n 1, 1) := by decide +kernel
theorem dX7_swap_31 : decode cX7_swap 31 = .ok (.iload_n 2, 1) := by decide +kernel
theorem dX7_swap_32 : decode cX7_swap 32 = .ok (.invokevirtual 126, 3) := by decide +kernel
theorem dX7_swap_35 : decode cX7_swap 35 = .ok (.ireturn, 1) := by decide +kernel
theorem dX7_change_0 : decode cX7_change 0 = .ok (.aload_n 0, 1) := by decide +kernel
theorem dX7_change_1 : decode cX7_change 1 = .ok (.iconst 0, 1) := by decide +kernel
theorem dX7_change_2 : decode cX7_change 2 = .ok (.putfield 28, 3) := by decide +kernel
theorem dX7_change_5 : decode cX7_change 5 = .ok (.iload_n 1, 1) := by decide +kernel
theorem dX7_change_6 : decode cX7_change 6 = .ok (.iconst 0, 1) := by decide +kernel
theorem dX7_change_7 : decode cX7_change 7 = .ok (.iconst 2, 1) := by decide +kernel
theorem dX7_change_8 : decode cX7_change 8 = .ok (.invokestatic 36, 3) := by decide +kernel
theorem dX7_change_11 : decode cX7_change 11 = .ok (.ifCond .ne 9, 3) := by decide +kernel
theorem dX7_change_14 : decode cX7_change 14 = .ok (.aload_n 0, 1) := by decide +kernel
theorem dX7_change_15 : decode cX7_change 15 = .ok (.iconst 1, 1) := by decide +kernel
theorem dX7_change_16 : decode cX7_change 16 = .ok (.invokevirtual 84, 3) := by decide +kernel
theorem dX7_change_19 : decode cX7_change 19 = .ok (.ireturn, 1) := by decide +kernel
theorem dX7_change_20 : decode cX7_change 20 = .ok (.iload_n 2, 1) := by decide +kernel
theorem dX7_change_21 : decode cX7_change 21 = .ok (.iload_n 1, 1) := by decide +kernel
theorem dX7_change_22 : decode cX7_change 22 = .ok (.ifCond .ne 8, 3) := by decide +kernel
theorem dX7_change_25 : decode cX7_change 25 = .ok (.bipush 20, 2) := by decide +kernel
theorem dX7_change_27 : decode cX7_change 27 = .ok (.goto 4, 3) := by decide +kernel
theorem dX7_change_30 : decode cX7_change 30 = .ok (.iconst 0, 1) := by decide +kernel
theorem dX7_change_31 : decode cX7_change 31 = .ok (.iload_n 1, 1) := by decide +kernel
theorem dX7_change_32 : decode cX7_change 32 = .ok (.ifCond .ne 8, 3) := by decide +kernel
theorem dX7_change_35 : decode cX7_change 35 = .ok (.bipush 120, 2) := by decide +kernel
theorem dX7_change_37 : decode cX7_change 37 = .ok (.goto 14, 3) := by decide +kernel
theorem dX7_change_40 : decode cX7_change 40 = .ok (.iload_n 1, 1) := by decide +kernel
theorem dX7_change_41 : decode cX7_change 41 = .ok (.iconst 1, 1) := by decide +kernel
theorem dX7_change_42 : decode cX7_change 42 = .ok (.if_icmp .ne 8, 3) := by decide +kernel
theorem dX7_change_45 : decode cX7_change 45 = .ok (.bipush 9, 2) := by decide +kernel
theorem dX7_change_47 : decode cX7_change 47 = .ok (.goto 4, 3) := by decide +kernel
theorem dX7_change_50 : decode cX7_change 50 = .ok (.iconst 1, 1) := by decide +kernel
theorem dX7_change_51 : decode cX7_change 51 = .ok (.invokestatic 36, 3) := by decide +kernel
theorem dX7_change_54 : decode cX7_change 54 = .ok (.ifCond .ne 9, 3) := by decide +kernel
theorem dX7_change_57 : decode cX7_change 57 = .ok (.aload_n 0, 1) := by decide +kernel
theorem dX7_change_58 : decode cX7_change 58 = .ok (.iconst 2, 1) := by decide +kernel
theorem dX7_change_59 : decode cX7_change 59 = .ok (.invokevirtual 84, 3) := by decide +kernel
theorem dX7_change_62 : decode cX7_change 62 = .ok (.ireturn, 1) := by decide +kernel
theorem dX7_change_63 : decode cX7_change 63 = .ok (.aload_n 0, 1) := by decide +kernel
theorem dX7_change_64 : decode cX7_change 64 = .ok (.invokevirtual 90, 3) := by decide +kernel
theorem dX7_change_67 : decode cX7_change 67 = .ok (.aload_n 0, 1) := by decide +kernel
theorem dX7_change_68 : decode cX7_change 68 = .ok (.getfield 7, 3) := by decide +kernel
theorem dX7_change_71 : decode cX7_change 71 = .ok (.iload_n 1, 1) := by decide +kernel
theorem dX7_change_72 : decode cX7_change 72 = .ok (.iaload, 1) := by decide +kernel
theorem dX7_change_73 : decode cX7_change 73 = .ok (.istore_n 3, 1) := by decide +kernel
theorem dX7_change_74 : decode cX7_change 74 = .ok (.aload_n 0, 1) := by decide +kernel
theorem dX7_change_75 : decode cX7_change 75 = .ok (.getfield 7, 3) := by decide +kernel
theorem dX7_change_78 : decode cX7_change 78 = .ok (.iload_n 1, 1) := by decide +kernel
theorem dX7_change_79 : decode cX7_change 79 = .ok (.iload_n 2, 1) := by decide +kernel
theorem dX7_change_80 : decode cX7_change 80 = .ok (.iastore, 1) := by decide +kernel
theorem dX7_change_81 : decode cX7_change 81 = .ok (.aload_n 0, 1) := by decide +kernel
theorem dX7_change_82 : decode cX7_change 82 = .ok (.getfield 7, 3) := by decide +kernel
theorem dX7_change_85 : decode cX7_change 85 = .ok (.iconst 3, 1) := by decide +kernel
theorem dX7_change_86 : decode cX7_change 86 = .ok (.iconst (-1), 1) := by decide +kernel
theorem dX7_change_87 : decode cX7_change 87 = .ok (.iastore, 1) := by decide +kernel
theorem dX7_change_88 : decode cX7_change 88 = .ok (.iload_n 3, 1) := by decide +kernel
theorem dX7_change_89 : decode cX7_change 89 = .ok (.ireturn, 1) := by decide +kernel
theorem dX7_append_0 : decode cX7_append 0 = .ok (.aload_n 0, 1) := by decide +kernel
theorem dX7_append_1 : decode cX7_append 1 = .ok (.iconst 0, 1) := by decide +kernel
theorem dX7_append_2 : decode cX7_append 2 = .ok (.putfield 28, 3) := by decide +kernel
theorem dX7_append_5 : decode cX7_append 5 = .ok (.iload_n 1, 1) := by decide +kernel
theorem dX7_append_6 : decode cX7_append 6 = .ok (.bipush 33, 2) := by decide +kernel
theorem dX7_append_8 : decode cX7_append 8 = .ok (.bipush 126, 2) := by decide +kernel
theorem dX7_append_10 : decode cX7_append 10 = .ok (.invokestatic 36, 3) := by decide +kernel
theorem dX7_append_13 : decode cX7_append 13 = .ok (.ifCond .ne 9, 3) := by decide +kernel
theorem dX7_append_16 : decode cX7_append 16 = .ok (.aload_n 0, 1) := by decide +kernel
theorem dX7_append_17 : decode cX7_append 17 = .ok (.iconst 1, 1) := by decide +kernel
theorem dX7_append_18 : decode cX7_append 18 = .ok (.invokevirtual 84, 3) := by decide +kernel
theorem dX7_append_21 : decode cX7_append 21 = .ok (.ireturn, 1) := by decide +kernel
theorem dX7_append_22 : decode cX7_append 22 = .ok (.aload_n 0, 1) := by decide +kernel
theorem dX7_append_23 : decode cX7_append 23 = .ok (.getfield 129, 3) := by decide +kernel
theorem dX7_append_26 : decode cX7_append 26 = .ok (.bipush 60, 2) := by decide +kernel
theorem dX7_append_28 : decode cX7_append 28 = .ok (.if_icmp .ne 9, 3) := by decide +kernel
theorem dX7_append_31 : decode cX7_append 31 = .ok (.aload_n 0, 1) := by decide +kernel
theorem dX7_append_32 : decode cX7_append 32 = .ok (.iconst 2, 1) := by decide +kernel
theorem dX7_append_33 : decode cX7_append 33 = .ok (.invokevirtual 84, 3) := by decide +kernel
theorem dX7_append_36 : decode cX7_append 36 = .ok (.ireturn, 1) := by decide +kernel
theorem dX7_append_37 : decode cX7_append 37 = .ok (.aload_n 0, 1) := by decide +kernel
theorem dX7_append_38 : decode cX7_append 38 = .ok (.getfield 22, 3) := by decide +kernel
theorem dX7_append_41 : decode cX7_append 41 = .ok (.aload_n 0, 1) := by decide +kernel
theorem dX7_append_42 : decode cX7_append 42 = .ok (.getfield 129, 3) := by decide +kernel
theorem dX7_append_45 : decode cX7_append 45 = .ok (.iload_n 1, 1) := by decide +kernel
theorem dX7_append_46 : decode cX7_append 46 = .ok (.iastore, 1) := by decide +kernel
theorem dX7_append_47 : decode cX7_append 47 = .ok (.aload_n 0, 1) := by decide +kernel
theorem dX7_append_48 : decode cX7_append 48 = .ok (.dup, 1) := by decide +kernel
theorem dX7_append_49 : decode cX7_append 49 = .ok (.getfield 129, 3) := by decide +kernel
theorem dX7_append_52 : decode cX7_append 52 = .ok (.iconst 1, 1) := by decide +kernel
theorem dX7_append_53 : decode cX7_append 53 = .ok (.iadd, 1) := by decide +kernel
theorem dX7_append_54 : decode cX7_append 54 = .ok (.putfield 129, 3) := by decide +kernel
theorem dX7_append_57 : decode cX7_append 57 = .ok (.aload_n 0, 1) := by decide +kernel
theorem dX7_append_58 : decode cX7_append 58 = .ok (.getfield 129, 3) := by decide +kernel
theorem dX7_append_61 : decode cX7_append 61 = .ok (.ireturn, 1) := by decide +kernel
theorem dX7_clearBuffer_0 : decode cX7_clearBuffer 0 = .ok (.aload_n 0, 1) := by decide +kernel
theorem dX7_clearBuffer_1 : decode cX7_clearBuffer 1 = .ok (.iconst 0, 1) := by decide +kernel
theorem dX7_clearBuffer_2 : decode cX7_clearBuffer 2 = .ok (.putfield 28, 3) := by decide +kernel
theorem dX7_clearBuffer_5 : decode cX7_clearBuffer 5 = .ok (.aload_n 0, 1) := by decide +kernel
theorem dX7_clearBuffer_6 : decode cX7_clearBuffer 6 = .ok (.getfield 129, 3) := by decide +kernel
theorem dX7_clearBuffer_9 : decode cX7_clearBuffer 9 = .ok (.istore_n 1, 1) := by decide +kernel
theorem dX7_clearBuffer_10 : decode cX7_clearBuffer 10 = .ok (.aload_n 0, 1) := by decide +kernel
theorem dX7_clearBuffer_11 : decode cX7_clearBuffer 11 = .ok (.iconst 0, 1) := by decide +kernel
theorem dX7_clearBuffer_12 : decode cX7_clearBuffer 12 = .ok (.putfield 129, 3) := by decide +kernel
theorem dX7_clearBuffer_15 : decode cX7_clearBuffer 15 = .ok (.iload_n 1, 1) := by decide +kernel
theorem dX7_clearBuffer_16 : decode cX7_clearBuffer 16 = .ok (.ireturn, 1) := by decide +kernel
theorem dX7_sign_0 : decode cX7_sign 0 = .ok (.aload_n 0, 1) := by decide +kernel
theorem dX7_sign_1 : decode cX7_sign 1 = .ok (.getfield 132, 3) := by decide +kernel
theorem dX7_sign_4 : decode cX7_sign 4 = .ok (.aload_n 0, 1) := by decide +kernel
theorem dX7_sign_5 : decode cX7_sign 5 = .ok (.getfield 129, 3) := by decide +kernel
theorem dX7_sign_8 : decode cX7_sign 8 = .ok (.if_icmp .ge 15, 3) := by decide +kernel
theorem dX7_sign_11 : decode cX7_sign 11 = .ok (.aload_n 0, 1) := by decide +kernel
theorem dX7_sign_12 : decode cX7_sign 12 = .ok (.getfield 22, 3) := by decide +kernel
theorem dX7_sign_15 : decode cX7_sign 15 = .ok (.aload_n 0, 1) := by decide +kernel
theorem dX7_sign_16 : decode cX7_sign 16 = .ok (.getfield 132, 3) := by decide +kernel
theorem dX7_sign_19 : decode cX7_sign 19 = .ok (.iaload, 1) := by decide +kernel
theorem dX7_sign_20 : decode cX7_sign 20 = .ok (.goto 4, 3) := by decide +kernel
theorem dX7_sign_23 : decode cX7_sign 23 = .ok (.iconst 0, 1) := by decide +kernel
theorem dX7_sign_24 : decode cX7_sign 24 = .ok (.ireturn, 1) := by decide +kernel
theorem dX7_wants_0 : decode cX7_wants 0 = .ok (.aload_n 0, 1) := by decide +kernel
theorem dX7_wants_1 : decode cX7_wants 1 = .ok (.aload_n 0, 1) := by decide +kernel
theorem dX7_wants_2 : decode cX7_wants 2 = .ok (.getfield 135, 3) := by decide +kernel
theorem dX7_wants_5 : decode cX7_wants 5 = .ok (.ifCond .eq 15, 3) := by decide +kernel
theorem dX7_wants_8 : decode cX7_wants 8 = .ok (.aload_n 0, 1) := by decide +kernel
theorem dX7_wants_9 : decode cX7_wants 9 = .ok (.invokevirtual 139, 3) := by decide +kernel
theorem dX7_wants_12 : decode cX7_wants 12 = .ok (.iload_n 1, 1) := by decide +kernel
theorem dX7_wants_13 : decode cX7_wants 13 = .ok (.if_icmp .ne 7, 3) := by decide +kernel
theorem dX7_wants_16 : decode cX7_wants 16 = .ok (.iconst 1, 1) := by decide +kernel
theorem dX7_wants_17 : decode cX7_wants 17 = .ok (.goto 4, 3) := by decide +kernel
theorem dX7_wants_20 : decode cX7_wants 20 = .ok (.iconst 0, 1) := by decide +kernel
theorem dX7_wants_21 : decode cX7_wants 21 = .ok (.putfield 135, 3) := by decide +kernel
theorem dX7_wants_24 : decode cX7_wants 24 = .ok (.aload_n 0, 1) := by decide +kernel
theorem dX7_wants_25 : decode cX7_wants 25 = .ok (.dup, 1) := by decide +kernel
theorem dX7_wants_26 : decode cX7_wants 26 = .ok (.getfield 132, 3) := by decide +kernel
theorem dX7_wants_29 : decode cX7_wants 29 = .ok (.aload_n 0, 1) := by decide +kernel
theorem dX7_wants_30 : decode cX7_wants 30 = .ok (.getfield 135, 3) := by decide +kernel
theorem dX7_wants_33 : decode cX7_wants 33 = .ok (.ifCond .eq 7, 3) := by decide +kernel
theorem dX7_wants_36 : decode cX7_wants 36 = .ok (.iconst 1, 1) := by decide +kernel
theorem dX7_wants_37 : decode cX7_wants 37 = .ok (.goto 4, 3) := by decide +kernel
theorem dX7_wants_40 : decode cX7_wants 40 = .ok (.iconst 0, 1) := by decide +kernel
theorem dX7_wants_41 : decode cX7_wants 41 = .ok (.iadd, 1) := by decide +kernel
theorem dX7_wants_42 : decode cX7_wants 42 = .ok (.putfield 132, 3) := by decide +kernel
theorem dX7_wants_45 : decode cX7_wants 45 = .ok (.return_, 1) := by decide +kernel
theorem dX7_wantsThree_0 : decode cX7_wantsThree 0 = .ok (.aload_n 0, 1) := by decide +kernel
theorem dX7_wantsThree_1 : decode cX7_wantsThree 1 = .ok (.iload_n 1, 1) := by decide +kernel
theorem dX7_wantsThree_2 : decode cX7_wantsThree 2 = .ok (.invokevirtual 142, 3) := by decide +kernel
theorem dX7_wantsThree_5 : decode cX7_wantsThree 5 = .ok (.aload_n 0, 1) := by decide +kernel
theorem dX7_wantsThree_6 : decode cX7_wantsThree 6 = .ok (.iload_n 2, 1) := by decide +kernel
theorem dX7_wantsThree_7 : decode cX7_wantsThree 7 = .ok (.invokevirtual 142, 3) := by decide +kernel
theorem dX7_wantsThree_10 : decode cX7_wantsThree 10 = .ok (.aload_n 0, 1) := by decide +kernel
theorem dX7_wantsThree_11 : decode cX7_wantsThree 11 = .ok (.iload_n 3, 1) := by decide +kernel
theorem dX7_wantsThree_12 : decode cX7_wantsThree 12 = .ok (.invokevirtual 142, 3) := by decide +kernel
theorem dX7_wantsThree_15 : decode cX7_wantsThree 15 = .ok (.return_, 1) := by decide +kernel
theorem dX7_letter_0 : decode cX7_letter 0 = .ok (.aload_n 0, 1) := by decide +kernel
theorem dX7_letter_1 : decode cX7_letter 1 = .ok (.aload_n 0, 1) := by decide +kernel
theorem dX7_letter_2 : decode cX7_letter 2 = .ok (.getfield 135, 3) := by decide +kernel
theorem dX7_letter_5 : decode cX7_letter 5 = .ok (.ifCond .eq 21, 3) := by decide +kernel
theorem dX7_letter_8 : decode cX7_letter 8 = .ok (.aload_n 0, 1) := by decide +kernel
theorem dX7_letter_9 : decode cX7_letter 9 = .ok (.invokevirtual 139, 3) := by decide +kernel
theorem dX7_letter_12 : decode cX7_letter 12 = .ok (.bipush 97, 2) := by decide +kernel
theorem dX7_letter_14 : decode cX7_letter 14 = .ok (.bipush 108, 2) := by decide +kernel
theorem dX7_letter_16 : decode cX7_letter 16 = .ok (.invokestatic 36, 3) := by decide +kernel
theorem dX7_letter_19 : decode cX7_letter 19 = .ok (.ifCond .eq 7, 3) := by decide +kernel
theorem dX7_letter_22 : decode cX7_letter 22 = .ok (.iconst 1, 1) := by decide +kernel
theorem dX7_letter_23 : decode cX7_letter 23 = .ok (.goto 4, 3) := by decide +kernel
theorem dX7_letter_26 : decode cX7_letter 26 = .ok (.iconst 0, 1) := by decide +kernel
theorem dX7_letter_27 : decode cX7_letter 27 = .ok (.putfield 135, 3) := by decide +kernel
theorem dX7_letter_30 : decode cX7_letter 30 = .ok (.aload_n 0, 1) := by decide +kernel
theorem dX7_letter_31 : decode cX7_letter 31 = .ok (.invokevirtual 139, 3) := by decide +kernel
theorem dX7_letter_34 : decode cX7_letter 34 = .ok (.bipush 97, 2) := by decide +kernel
theorem dX7_letter_36 : decode cX7_letter 36 = .ok (.isub, 1) := by decide +kernel
theorem dX7_letter_37 : decode cX7_letter 37 = .ok (.istore_n 1, 1) := by decide +kernel
theorem dX7_letter_38 : decode cX7_letter 38 = .ok (.aload_n 0, 1) := by decide +kernel
theorem dX7_letter_39 : decode cX7_letter 39 = .ok (.dup, 1) := by decide +kernel
theorem dX7_letter_40 : decode cX7_letter 40 = .ok (.getfield 132, 3) := by decide +kernel
theorem dX7_letter_43 : decode cX7_letter 43 = .ok (.aload_n 0, 1) := by decide +kernel
theorem dX7_letter_44 : decode cX7_letter 44 = .ok (.getfield 135, 3) := by decide +kernel
theorem dX7_letter_47 : decode cX7_letter 47 = .ok (.ifCond .eq 7, 3) := by decide +kernel
theorem dX7_letter_50 : decode cX7_letter 50 = .ok (.iconst 1, 1) := by decide +kernel
theorem dX7_letter_51 : decode cX7_letter 51 = .ok (.goto 4, 3) := by decide +kernel
theorem dX7_letter_54 : decode cX7_letter 54 = .ok (.iconst 0, 1) := by decide +kernel
theorem dX7_letter_55 : decode cX7_letter 55 = .ok (.iadd, 1) := by decide +kernel
theorem dX7_letter_56 : decode cX7_letter 56 = .ok (.putfield 132, 3) := by decide +kernel
theorem dX7_letter_59 : decode cX7_letter 59 = .ok (.iload_n 1, 1) := by decide +kernel
theorem dX7_letter_60 : decode cX7_letter 60 = .ok (.ireturn, 1) := by decide +kernel
theorem dX7_number_0 : decode cX7_number 0 = .ok (.aload_n 0, 1) := by decide +kernel
theorem dX7_number_1 : decode cX7_number 1 = .ok (.aload_n 0, 1) := by decide +kernel
theorem dX7_number_2 : decode cX7_number 2 = .ok (.getfield 135, 3) := by decide +kernel
theorem dX7_number_5 : decode cX7_number 5 = .ok (.ifCond .eq 23, 3) := by decide +kernel
theorem dX7_number_8 : decode cX7_number 8 = .ok (.aload_n 0, 1) := by decide +kernel
theorem dX7_number_9 : decode cX7_number 9 = .ok (.invokevirtual 139, 3) := by decide +kernel
theorem dX7_number_12 : decode cX7_number 12 = .ok (.bipush 48, 2) := by decide +kernel
theorem dX7_number_14 : decode cX7_number 14 = .ok (.iload_n 1, 1) := by decide +kernel
theorem dX7_number_15 : decode cX7_number 15 = .ok (.iadd, 1) := by decide +kernel
theorem dX7_number_16 : decode cX7_number 16 = .ok (.bipush 57, 2) := by decide +kernel
theorem dX7_number_18 : decode cX7_number 18 = .ok (.invokestatic 36, 3) := by decide +kernel
theorem dX7_number_21 : decode cX7_number 21 = .ok (.ifCond .eq 7, 3) := by decide +kernel
theorem dX7_number_24 : decode cX7_number 24 = .ok (.iconst 1, 1) := by decide +kernel
theorem dX7_number_25 : decode cX7_number 25 = .ok (.goto 4, 3) := by decide +kernel
theorem dX7_number_28 : decode cX7_number 28 = .ok (.iconst 0, 1) := by decide +kernel
theorem dX7_number_29 : decode cX7_number 29 = .ok (.putfield 135, 3) := by decide +kernel
theorem dX7_number_32 : decode cX7_number 32 = .ok (.aload_n 0, 1) := by decide +kernel
theorem dX7_number_33 : decode cX7_number 33 = .ok (.invokevirtual 139, 3) := by decide +kernel
theorem dX7_number_36 : decode cX7_number 36 = .ok (.bipush 48, 2) := by decide +kernel
theorem dX7_number_38 : decode cX7_number 38 = .ok (.isub, 1) := by decide +kernel
theorem dX7_number_39 : decode cX7_number 39 = .ok (.istore_n 3, 1) := by decide +kernel
theorem dX7_number_40 : decode cX7_number 40 = .ok (.aload_n 0, 1) := by decide +kernel
theorem dX7_number_41 : decode cX7_number 41 = .ok (.dup, 1) := by decide +kernel
theorem dX7_number_42 : decode cX7_number 42 = .ok (.getfield 132, 3) := by decide +kernel
theorem dX7_number_45 : decode cX7_number 45 = .ok (.aload_n 0, 1) := by decide +kernel
theorem dX7_number_46 : decode cX7_number 46 = .ok (.getfield 135, 3) := by decide +kernel
theorem dX7_number_49 : decode cX7_number 49 = .ok (.ifCond .eq 7, 3) := by decide +kernel
theorem dX7_number_52 : decode cX7_number 52 = .ok (.iconst 1, 1) := by decide +kernel
theorem dX7_number_53 : decode cX7_number 53 = .ok (.goto 4, 3) := by decide +kernel
theorem dX7_number_56 : decode cX7_number 56 = .ok (.iconst 0, 1) := by decide +kernel
theorem dX7_number_57 : decode cX7_number 57 = .ok (.iadd, 1) := by decide +kernel
theorem dX7_number_58 : decode cX7_number 58 = .ok (.putfield 132, 3) := by decide +kernel
theorem dX7_number_61 : decode cX7_number 61 = .ok (.aload_n 0, 1) := by decide +kernel
theorem dX7_number_62 : decode cX7_number 62 = .ok (.getfield 135, 3) := by decide +kernel
theorem dX7_number_65 : decode cX7_number 65 = .ok (.ifCond .eq 60, 3) := by decide +kernel
theorem dX7_number_68 : decode cX7_number 68 = .ok (.iload_n 3, 1) := by decide +kernel
theorem dX7_number_69 : decode cX7_number 69 = .ok (.ifCond .le 56, 3) := by decide +kernel
theorem dX7_number_72 : decode cX7_number 72 = .ok (.aload_n 0, 1) := by decide +kernel
theorem dX7_number_73 : decode cX7_number 73 = .ok (.invokevirtual 139, 3) := by decide +kernel
theorem dX7_number_76 : decode cX7_number 76 = .ok (.bipush 48, 2) := by decide +kernel
theorem dX7_number_78 : decode cX7_number 78 = .ok (.bipush 57, 2) := by decide +kernel
theorem dX7_number_80 : decode cX7_number 80 = .ok (.invokestatic 36, 3) := by decide +kernel
theorem dX7_number_83 : decode cX7_number 83 = .ok (.ifCond .eq 42, 3) := by decide +kernel
theorem dX7_number_86 : decode cX7_number 86 = .ok (.bipush 10, 2) := by decide +kernel
theorem dX7_number_88 : decode cX7_number 88 = .ok (.iload_n 3, 1) := by decide +kernel
theorem dX7_number_89 : decode cX7_number 89 = .ok (.imul, 1) := by decide +kernel
theorem dX7_number_90 : decode cX7_number 90 = .ok (.aload_n 0, 1) := by decide +kernel
theorem dX7_number_91 : decode cX7_number 91 = .ok (.invokevirtual 139, 3) := by decide +kernel
theorem dX7_number_94 : decode cX7_number 94 = .ok (.iadd, 1) := by decide +kernel
theorem dX7_number_95 : decode cX7_number 95 = .ok (.bipush 48, 2) := by decide +kernel
theorem dX7_number_97 : decode cX7_number 97 = .ok (.isub, 1) := by decide +kernel
theorem dX7_number_98 : decode cX7_number 98 = .ok (.iload_n 2, 1) := by decide +kernel
theorem dX7_number_99 : decode cX7_number 99 = .ok (.if_icmp .gt 26, 3) := by decide +kernel
theorem dX7_number_102 : decode cX7_number 102 = .ok (.bipush 10, 2) := by decide +kernel
theorem dX7_number_104 : decode cX7_number 104 = .ok (.iload_n 3, 1) := by decide +kernel
theorem dX7_number_105 : decode cX7_number 105 = .ok (.imul, 1) := by decide +kernel
theorem dX7_number_106 : decode cX7_number 106 = .ok (.aload_n 0, 1) := by decide +kernel
theorem dX7_number_107 : decode cX7_number 107 = .ok (.invokevirtual 139, 3) := by decide +kernel
theorem dX7_number_110 : decode cX7_number 110 = .ok (.iadd, 1) := by decide +kernel
theorem dX7_number_111 : decode cX7_number 111 = .ok (.bipush 48, 2) := by decide +kernel
theorem dX7_number_113 : decode cX7_number 113 = .ok (.isub, 1) := by decide +kernel
theorem dX7_number_114 : decode cX7_number 114 = .ok (.istore_n 3, 1) := by decide +kernel
theorem dX7_number_115 : decode cX7_number 115 = .ok (.aload_n 0, 1) := by decide +kernel
theorem dX7_number_116 : decode cX7_number 116 = .ok (.dup, 1) := by decide +kernel
theorem dX7_number_117 : decode cX7_number 117 = .ok (.getfield 132, 3) := by decide +kernel
theorem dX7_number_120 : decode cX7_number 120 = .ok (.iconst 1, 1) := by decide +kernel
theorem dX7_number_121 : decode cX7_number 121 = .ok (.iadd, 1) := by decide +kernel
theorem dX7_number_122 : decode cX7_number 122 = .ok (.putfield 132, 3) := by decide +kernel
theorem dX7_number_125 : decode cX7_number 125 = .ok (.iload_n 3, 1) := by decide +kernel
theorem dX7_number_126 : decode cX7_number 126 = .ok (.ireturn, 1) := by decide +kernel
theorem dX7_word_0 : decode cX7_word 0 = .ok (.aload_n 0, 1) := by decide +kernel
theorem dX7_word_1 : decode cX7_word 1 = .ok (.invokevirtual 139, 3) := by decide +kernel
theorem dX7_word_4 : decode cX7_word 4 = .ok (.istore_n 1, 1) := by decide +kernel
theorem dX7_word_5 : decode cX7_word 5 = .ok (.aload_n 0, 1) := by decide +kernel
theorem dX7_word_6 : decode cX7_word 6 = .ok (.iload_n 1, 1) := by decide +kernel
theorem dX7_word_7 : decode cX7_word 7 = .ok (.bipush 115, 2) := by decide +kernel
theorem dX7_word_9 : decode cX7_word 9 = .ok (.if_icmp .eq 21, 3) := by decide +kernel
theorem dX7_word_12 : decode cX7_word 12 = .ok (.iload_n 1, 1) := by decide +kernel
theorem dX7_word_13 : decode cX7_word 13 = .ok (.bipush 102, 2) := by decide +kernel
theorem dX7_word_15 : decode cX7_word 15 = .ok (.if_icmp .eq 15, 3) := by decide +kernel
theorem dX7_word_18 : decode cX7_word 18 = .ok (.iload_n 1, 1) := by decide +kernel
theorem dX7_word_19 : decode cX7_word 19 = .ok (.bipush 98, 2) := by decide +kernel
theorem dX7_word_21 : decode cX7_word 21 = .ok (.if_icmp .eq 9, 3) := by decide +kernel
theorem dX7_word_24 : decode cX7_word 24 = .ok (.iload_n 1, 1) := by decide +kernel
theorem dX7_word_25 : decode cX7_word 25 = .ok (.bipush 105, 2) := by decide +kernel
theorem dX7_word_27 : decode cX7_word 27 = .ok (.if_icmp .ne 7, 3) := by decide +kernel
theorem dX7_word_30 : decode cX7_word 30 = .ok (.iconst 1, 1) := by decide +kernel
theorem dX7_word_31 : decode cX7_word 31 = .ok (.goto 4, 3) := by decide +kernel
theorem dX7_word_34 : decode cX7_word 34 = .ok (.iconst 0, 1) := by decide +kernel
theorem dX7_word_35 : decode cX7_word 35 = .ok (.putfield 135, 3) := by decide +kernel
theorem dX7_word_38 : decode cX7_word 38 = .ok (.aload_n 0, 1) := by decide +kernel
theorem dX7_word_39 : decode cX7_word 39 = .ok (.dup, 1) := by decide +kernel
theorem dX7_word_40 : decode cX7_word 40 = .ok (.getfield 132, 3) := by decide +kernel
theorem dX7_word_43 : decode cX7_word 43 = .ok (.aload_n 0, 1) := by decide +kernel
theorem dX7_word_44 : decode cX7_word 44 = .ok (.getfield 135, 3) := by decide +kernel
theorem dX7_word_47 : decode cX7_word 47 = .ok (.ifCond .eq 7, 3) := by decide +kernel
theorem dX7_word_50 : decode cX7_word 50 = .ok (.iconst 1, 1) := by decide +kernel
theorem dX7_word_51 : decode cX7_word 51 = .ok (.goto 4, 3) := by decide +kernel
theorem dX7_word_54 : decode cX7_word 54 = .ok (.iconst 0, 1) := by decide +kernel
theorem dX7_word_55 : decode cX7_word 55 = .ok (.iadd, 1) := by decide +kernel
theorem dX7_word_56 : decode cX7_word 56 = .ok (.putfield 132, 3) := by decide +kernel
theorem dX7_word_59 : decode cX7_word 59 = .ok (.iload_n 1, 1) := by decide +kernel
theorem dX7_word_60 : decode cX7_word 60 = .ok (.lookupswitch 67 #[(98, 55), (102, 41), (115, 36)], 36) := by decide +kernel
theorem dX7_word_96 : decode cX7_word 96 = .ok (.aload_n 0, 1) := by decide +kernel
theorem dX7_word_97 : decode cX7_word 97 = .ok (.invokevirtual 146, 3) := by decide +kernel
theorem dX7_word_100 : decode cX7_word 100 = .ok (.ireturn, 1) := by decide +kernel
theorem dX7_word_101 : decode cX7_word 101 = .ok (.aload_n 0, 1) := by decide +kernel
theorem dX7_word_102 : decode cX7_word 102 = .ok (.bipush 105, 2) := by decide +kernel
theorem dX7_word_104 : decode cX7_word 104 = .ok (.invokevirtual 142, 3) := by decide +kernel
theorem dX7_word_107 : decode cX7_word 107 = .ok (.aload_n 0, 1) := by decide +kernel
theorem dX7_word_108 : decode cX7_word 108 = .ok (.bipush 120, 2) := by decide +kernel
theorem dX7_word_110 : decode cX7_word 110 = .ok (.invokevirtual 142, 3) := by decide +kernel
theorem dX7_word_113 : decode cX7_word 113 = .ok (.iconst 2, 1) := by decide +kernel
theorem dX7_word_114 : decode cX7_word 114 = .ok (.ireturn, 1) := by decide +kernel
theorem dX7_word_115 : decode cX7_word 115 = .ok (.aload_n 0, 1) := by decide +kernel
theorem dX7_word_116 : decode cX7_word 116 = .ok (.bipush 97, 2) := by decide +kernel
theorem dX7_word_118 : decode cX7_word 118 = .ok (.bipush 99, 2) := by decide +kernel
theorem dX7_word_120 : decode cX7_word 120 = .ok (.bipush 107, 2) := by decide +kernel
theorem dX7_word_122 : decode cX7_word 122 = .ok (.invokevirtual 149, 3) := by decide +kernel
theorem dX7_word_125 : decode cX7_word 125 = .ok (.iconst 3, 1) := by decide +kernel
theorem dX7_word_126 : decode cX7_word 126 = .ok (.ireturn, 1) := by decide +kernel
theorem dX7_word_127 : decode cX7_word 127 = .ok (.aload_n 0, 1) := by decide +kernel
theorem dX7_word_128 : decode cX7_word 128 = .ok (.bipush 100, 2) := by decide +kernel
theorem dX7_word_130 : decode cX7_word 130 = .ok (.bipush 108, 2) := by decide +kernel
theorem dX7_word_132 : decode cX7_word 132 = .ok (.bipush 101, 2) := by decide +kernel
theorem dX7_word_134 : decode cX7_word 134 = .ok (.invokevirtual 149, 3) := by decide +kernel
theorem dX7_word_137 : decode cX7_word 137 = .ok (.iconst 4, 1) := by decide +kernel
theorem dX7_word_138 : decode cX7_word 138 = .ok (.ireturn, 1) := by decide +kernel
theorem dX7_wordOfS_0 : decode cX7_wordOfS 0 = .ok (.aload_n 0, 1) := by decide +kernel
theorem dX7_wordOfS_1 : decode cX7_wordOfS 1 = .ok (.invokevirtual 139, 3) := by decide +kernel
theorem dX7_wordOfS_4 : decode cX7_wordOfS 4 = .ok (.bipush 119, 2) := by decide +kernel
theorem dX7_wordOfS_6 : decode cX7_wordOfS 6 = .ok (.if_icmp .ne 7, 3) := by decide +kernel
theorem dX7_wordOfS_9 : decode cX7_wordOfS 9 = .ok (.iconst 1, 1) := by decide +kernel
theorem dX7_wordOfS_10 : decode cX7_wordOfS 10 = .ok (.goto 4, 3) := by decide +kernel
theorem dX7_wordOfS_13 : decode cX7_wordOfS 13 = .ok (.iconst 0, 1) := by decide +kernel
theorem dX7_wordOfS_14 : decode cX7_wordOfS 14 = .ok (.istore_n 1, 1) := by decide +kernel
theorem dX7_wordOfS_15 : decode cX7_wordOfS 15 = .ok (.iload_n 1, 1) := by decide +kernel
theorem dX7_wordOfS_16 : decode cX7_wordOfS 16 = .ok (.ifCond .eq 16, 3) := by decide +kernel
theorem dX7_wordOfS_19 : decode cX7_wordOfS 19 = .ok (.aload_n 0, 1) := by decide +kernel
theorem dX7_wordOfS_20 : decode cX7_wordOfS 20 = .ok (.bipush 119, 2) := by decide +kernel
theorem dX7_wordOfS_22 : decode cX7_wordOfS 22 = .ok (.bipush 97, 2) := by decide +kernel
theorem dX7_wordOfS_24 : decode cX7_wordOfS 24 = .ok (.bipush 112, 2) := by decide +kernel
theorem dX7_wordOfS_26 : decode cX7_wordOfS 26 = .ok (.invokevirtual 149, 3) := by decide +kernel
theorem dX7_wordOfS_29 : decode cX7_wordOfS 29 = .ok (.goto 15, 3) := by decide +kernel
theorem dX7_wordOfS_32 : decode cX7_wordOfS 32 = .ok (.aload_n 0, 1) := by decide +kernel
theorem dX7_wordOfS_33 : decode cX7_wordOfS 33 = .ok (.bipush 101, 2) := by decide +kernel
theorem dX7_wordOfS_35 : decode cX7_wordOfS 35 = .ok (.invokevirtual 142, 3) := by decide +kernel
theorem dX7_wordOfS_38 : decode cX7_wordOfS 38 = .ok (.aload_n 0, 1) := by decide +kernel
theorem dX7_wordOfS_39 : decode cX7_wordOfS 39 = .ok (.bipush 116, 2) := by decide +kernel
theorem dX7_wordOfS_41 : decode cX7_wordOfS 41 = .ok (.invokevirtual 142, 3) := by decide +kernel
theorem dX7_wordOfS_44 : decode cX7_wordOfS 44 = .ok (.aload_n 0, 1) := by decide +kernel
theorem dX7_wordOfS_45 : decode cX7_wordOfS 45 = .ok (.bipush 58, 2) := by decide +kernel
theorem dX7_wordOfS_47 : decode cX7_wordOfS 47 = .ok (.invokevirtual 142, 3) := by decide +kernel
theorem dX7_wordOfS_50 : decode cX7_wordOfS 50 = .ok (.iload_n 1, 1) := by decide +kernel
theorem dX7_wordOfS_51 : decode cX7_wordOfS 51 = .ok (.ifCond .eq 7, 3) := by decide +kernel
theorem dX7_wordOfS_54 : decode cX7_wordOfS 54 = .ok (.iconst 5, 1) := by decide +kernel
theorem dX7_wordOfS_55 : decode cX7_wordOfS 55 = .ok (.goto 4, 3) := by decide +kernel
theorem dX7_wordOfS_58 : decode cX7_wordOfS 58 = .ok (.iconst 1, 1) := by decide +kernel
theorem dX7_wordOfS_59 : decode cX7_wordOfS 59 = .ok (.ireturn, 1) := by decide +kernel
theorem dX7_readsPart_0 : decode cX7_readsPart 0 = .ok (.iconst 3, 1) := by decide +kernel
theorem dX7_readsPart_1 : decode cX7_readsPart 1 = .ok (.aload_n 0, 1) := by decide +kernel
theorem dX7_readsPart_2 : decode cX7_readsPart 2 = .ok (.getfield 153, 3) := by decide +kernel
theorem dX7_readsPart_5 : decode cX7_readsPart 5 = .ok (.imul, 1) := by decide +kernel
theorem dX7_readsPart_6 : decode cX7_readsPart 6 = .ok (.istore_n 1, 1) := by decide +kernel
theorem dX7_readsPart_7 : decode cX7_readsPart 7 = .ok (.aload_n 0, 1) := by decide +kernel
theorem dX7_readsPart_8 : decode cX7_readsPart 8 = .ok (.getfield 25, 3) := by decide +kernel
theorem dX7_readsPart_11 : decode cX7_readsPart 11 = .ok (.iload_n 1, 1) := by decide +kernel
theorem dX7_readsPart_12 : decode cX7_readsPart 12 = .ok (.aload_n 0, 1) := by decide +kernel
theorem dX7_readsPart_13 : decode cX7_readsPart 13 = .ok (.invokevirtual 156, 3) := by decide +kernel
theorem dX7_readsPart_16 : decode cX7_readsPart 16 = .ok (.iastore, 1) := by decide +kernel
theorem dX7_readsPart_17 : decode cX7_readsPart 17 = .ok (.aload_n 0, 1) := by decide +kernel
theorem dX7_readsPart_18 : decode cX7_readsPart 18 = .ok (.getfield 25, 3) := by decide +kernel
theorem dX7_readsPart_21 : decode cX7_readsPart 21 = .ok (.iload_n 1, 1) := by decide +kernel
theorem dX7_readsPart_22 : decode cX7_readsPart 22 = .ok (.iaload, 1) := by decide +kernel
theorem dX7_readsPart_23 : decode cX7_readsPart 23 = .ok (.tableswitch 171 1 5 #[33, 108, 171, 126, 144], 33) := by decide +kernel
theorem dX7_readsPart_56 : decode cX7_readsPart 56 = .ok (.aload_n 0, 1) := by decide +kernel
theorem dX7_readsPart_57 : decode cX7_readsPart 57 = .ok (.getfield 25, 3) := by decide +kernel
theorem dX7_readsPart_60 : decode cX7_readsPart 60 = .ok (.iload_n 1, 1) := by decide +kernel
theorem dX7_readsPart_61 : decode cX7_readsPart 61 = .ok (.iconst 1, 1) := by decide +kernel
theorem dX7_readsPart_62 : decode cX7_readsPart 62 = .ok (.iadd, 1) := by decide +kernel
theorem dX7_readsPart_63 : decode cX7_readsPart 63 = .ok (.aload_n 0, 1) := by decide +kernel
theorem dX7_readsPart_64 : decode cX7_readsPart 64 = .ok (.getfield 132, 3) := by decide +kernel
theorem dX7_readsPart_67 : decode cX7_readsPart 67 = .ok (.iastore, 1) := by decide +kernel
theorem dX7_readsPart_68 : decode cX7_readsPart 68 = .ok (.aload_n 0, 1) := by decide +kernel
theorem dX7_readsPart_69 : decode cX7_readsPart 69 = .ok (.invokevirtual 159, 3) := by decide +kernel
theorem dX7_readsPart_72 : decode cX7_readsPart 72 = .ok (.pop, 1) := by decide +kernel
theorem dX7_readsPart_73 : decode cX7_readsPart 73 = .ok (.aload_n 0, 1) := by decide +kernel
theorem dX7_readsPart_74 : decode cX7_readsPart 74 = .ok (.getfield 135, 3) := by decide +kernel
theorem dX7_readsPart_77 : decode cX7_readsPart 77 = .ok (.ifCond .eq 30, 3) := by decide +kernel
theorem dX7_readsPart_80 : decode cX7_readsPart 80 = .ok (.aload_n 0, 1) := by decide +kernel
theorem dX7_readsPart_81 : decode cX7_readsPart 81 = .ok (.invokevirtual 139, 3) := by decide +kernel
theorem dX7_readsPart_84 : decode cX7_readsPart 84 = .ok (.bipush 97, 2) := by decide +kernel
theorem dX7_readsPart_86 : decode cX7_readsPart 86 = .ok (.bipush 108, 2) := by decide +kernel
theorem dX7_readsPart_88 : decode cX7_readsPart 88 = .ok (.invokestatic 36, 3) := by decide +kernel
theorem dX7_readsPart_91 : decode cX7_readsPart 91 = .ok (.ifCond .eq 16, 3) := by decide +kernel
theorem dX7_readsPart_94 : decode cX7_readsPart 94 = .ok (.aload_n 0, 1) := by decide +kernel
theorem dX7_readsPart_95 : decode cX7_readsPart 95 = .ok (.dup, 1) := by decide +kernel
theorem dX7_readsPart_96 : decode cX7_readsPart 96 = .ok (.getfield 132, 3) := by decide +kernel
theorem dX7_readsPart_99 : decode cX7_readsPart 99 = .ok (.iconst 1, 1) := by decide +kernel
theorem dX7_readsPart_100 : decode cX7_readsPart 100 = .ok (.iadd, 1) := by decide +kernel
theorem dX7_readsPart_101 : decode cX7_readsPart 101 = .ok (.putfield 132, 3) := by decide +kernel
theorem dX7_readsPart_104 : decode cX7_readsPart 104 = .ok (.goto (-31), 3) := by decide +kernel
theorem dX7_readsPart_107 : decode cX7_readsPart 107 = .ok (.aload_n 0, 1) := by decide +kernel
theorem dX7_readsPart_108 : decode cX7_readsPart 108 = .ok (.getfield 25, 3) := by decide +kernel
theorem dX7_readsPart_111 : decode cX7_readsPart 111 = .ok (.iload_n 1, 1) := by decide +kernel
theorem dX7_readsPart_112 : decode cX7_readsPart 112 = .ok (.iconst 2, 1) := by decide +kernel
theorem dX7_readsPart_113 : decode cX7_readsPart 113 = .ok (.iadd, 1) := by decide +kernel
theorem dX7_readsPart_114 : decode cX7_readsPart 114 = .ok (.aload_n 0, 1) := by decide +kernel
theorem dX7_readsPart_115 : decode cX7_readsPart 115 = .ok (.getfield 132, 3) := by decide +kernel
theorem dX7_readsPart_118 : decode cX7_readsPart 118 = .ok (.aload_n 0, 1) := by decide +kernel
theorem dX7_readsPart_119 : decode cX7_readsPart 119 = .ok (.getfield 25, 3) := by decide +kernel
theorem dX7_readsPart_122 : decode cX7_readsPart 122 = .ok (.iload_n 1, 1) := by decide +kernel
theorem dX7_readsPart_123 : decode cX7_readsPart 123 = .ok (.iconst 1, 1) := by decide +kernel
theorem dX7_readsPart_124 : decode cX7_readsPart 124 = .ok (.iadd, 1) := by decide +kernel
theorem dX7_readsPart_125 : decode cX7_readsPart 125 = .ok (.iaload, 1) := by decide +kernel
theorem dX7_readsPart_126 : decode cX7_readsPart 126 = .ok (.isub, 1) := by decide +kernel
theorem dX7_readsPart_127 : decode cX7_readsPart 127 = .ok (.iastore, 1) := by decide +kernel
theorem dX7_readsPart_128 : decode cX7_readsPart 128 = .ok (.goto 66, 3) := by decide +kernel
theorem dX7_readsPart_131 : decode cX7_readsPart 131 = .ok (.aload_n 0, 1) := by decide +kernel
theorem dX7_readsPart_132 : decode cX7_readsPart 132 = .ok (.getfield 25, 3) := by decide +kernel
theorem dX7_readsPart_135 : decode cX7_readsPart 135 = .ok (.iload_n 1, 1) := by decide +kernel
theorem dX7_readsPart_136 : decode cX7_readsPart 136 = .ok (.iconst 1, 1) := by decide +kernel
theorem dX7_readsPart_137 : decode cX7_readsPart 137 = .ok (.iadd, 1) := by decide +kernel
theorem dX7_readsPart_138 : decode cX7_readsPart 138 = .ok (.aload_n 0, 1) := by decide +kernel
theorem dX7_readsPart_139 : decode cX7_readsPart 139 = .ok (.iconst 0, 1) := by decide +kernel
theorem dX7_readsPart_140 : decode cX7_readsPart 140 = .ok (.bipush 40, 2) := by decide +kernel
theorem dX7_readsPart_142 : decode cX7_readsPart 142 = .ok (.invokevirtual 162, 3) := by decide +kernel
theorem dX7_readsPart_145 : decode cX7_readsPart 145 = .ok (.iastore, 1) := by decide +kernel
theorem dX7_readsPart_146 : decode cX7_readsPart 146 = .ok (.goto 48, 3) := by decide +kernel
theorem dX7_readsPart_149 : decode cX7_readsPart 149 = .ok (.aload_n 0, 1) := by decide +kernel
theorem dX7_readsPart_150 : decode cX7_readsPart 150 = .ok (.getfield 25, 3) := by decide +kernel
theorem dX7_readsPart_153 : decode cX7_readsPart 153 = .ok (.iload_n 1, 1) := by decide +kernel
theorem dX7_readsPart_154 : decode cX7_readsPart 154 = .ok (.iconst 1, 1) := by decide +kernel
theorem dX7_readsPart_155 : decode cX7_readsPart 155 = .ok (.iadd, 1) := by decide +kernel
theorem dX7_readsPart_156 : decode cX7_readsPart 156 = .ok (.aload_n 0, 1) := by decide +kernel
theorem dX7_readsPart_157 : decode cX7_readsPart 157 = .ok (.iconst 1, 1) := by decide +kernel
theorem dX7_readsPart_158 : decode cX7_readsPart 158 = .ok (.bipush 99, 2) := by decide +kernel
theorem dX7_readsPart_160 : decode cX7_readsPart 160 = .ok (.invokevirtual 162, 3) := by decide +kernel
theorem dX7_readsPart_163 : decode cX7_readsPart 163 = .ok (.iastore, 1) := by decide +kernel
theorem dX7_readsPart_164 : decode cX7_readsPart 164 = .ok (.goto 30, 3) := by decide +kernel
theorem dX7_readsPart_167 : decode cX7_readsPart 167 = .ok (.aload_n 0, 1) := by decide +kernel
theorem dX7_readsPart_168 : decode cX7_readsPart 168 = .ok (.getfield 25, 3) := by decide +kernel
theorem dX7_readsPart_171 : decode cX7_readsPart 171 = .ok (.iload_n 1, 1) := by decide +kernel
theorem dX7_readsPart_172 : decode cX7_readsPart 172 = .ok (.iconst 1, 1) := by decide +kernel
theorem dX7_readsPart_173 : decode cX7_readsPart 173 = .ok (.iadd, 1) := by decide +kernel
theorem dX7_readsPart_174 : decode cX7_readsPart 174 = .ok (.aload_n 0, 1) := by decide +kernel
theorem dX7_readsPart_175 : decode cX7_readsPart 175 = .ok (.invokevirtual 159, 3) := by decide +kernel
theorem dX7_readsPart_178 : decode cX7_readsPart 178 = .ok (.iastore, 1) := by decide +kernel
theorem dX7_readsPart_179 : decode cX7_readsPart 179 = .ok (.aload_n 0, 1) := by decide +kernel
theorem dX7_readsPart_180 : decode cX7_readsPart 180 = .ok (.getfield 25, 3) := by decide +kernel
theorem dX7_readsPart_183 : decode cX7_readsPart 183 = .ok (.iload_n 1, 1) := by decide +kernel
theorem dX7_readsPart_184 : decode cX7_readsPart 184 = .ok (.iconst 2, 1) := by decide +kernel
theorem dX7_readsPart_185 : decode cX7_readsPart 185 = .ok (.iadd, 1) := by decide +kernel
theorem dX7_readsPart_186 : decode cX7_readsPart 186 = .ok (.aload_n 0, 1) := by decide +kernel
theorem dX7_readsPart_187 : decode cX7_readsPart 187 = .ok (.invokevirtual 159, 3) := by decide +kernel
theorem dX7_readsPart_190 : decode cX7_readsPart 190 = .ok (.iastore, 1) := by decide +kernel
theorem dX7_readsPart_191 : decode cX7_readsPart 191 = .ok (.goto 3, 3) := by decide +kernel
theorem dX7_readsPart_194 : decode cX7_readsPart 194 = .ok (.aload_n 0, 1) := by decide +kernel
theorem dX7_readsPart_195 : decode cX7_readsPart 195 = .ok (.dup, 1) := by decide +kernel
theorem dX7_readsPart_196 : decode cX7_readsPart 196 = .ok (.getfield 153, 3) := by decide +kernel
theorem dX7_readsPart_199 : decode cX7_readsPart 199 = .ok (.aload_n 0, 1) := by decide +kernel
theorem dX7_readsPart_200 : decode cX7_readsPart 200 = .ok (.getfield 135, 3) := by decide +kernel
theorem dX7_readsPart_203 : decode cX7_readsPart 203 = .ok (.ifCond .eq 7, 3) := by decide +kernel
theorem dX7_readsPart_206 : decode cX7_readsPart 206 = .ok (.iconst 1, 1) := by decide +kernel
theorem dX7_readsPart_207 : decode cX7_readsPart 207 = .ok (.goto 4, 3) := by decide +kernel
theorem dX7_readsPart_210 : decode cX7_readsPart 210 = .ok (.iconst 0, 1) := by decide +kernel
theorem dX7_readsPart_211 : decode cX7_readsPart 211 = .ok (.iadd, 1) := by decide +kernel
theorem dX7_readsPart_212 : decode cX7_readsPart 212 = .ok (.putfield 153, 3) := by decide +kernel
theorem dX7_readsPart_215 : decode cX7_readsPart 215 = .ok (.return_, 1) := by decide +kernel
theorem dX7_reads_0 : decode cX7_reads 0 = .ok (.aload_n 0, 1) := by decide +kernel
theorem dX7_reads_1 : decode cX7_reads 1 = .ok (.iconst 0, 1) := by decide +kernel
theorem dX7_reads_2 : decode cX7_reads 2 = .ok (.putfield 132, 3) := by decide +kernel
theorem dX7_reads_5 : decode cX7_reads 5 = .ok (.aload_n 0, 1) := by decide +kernel
theorem dX7_reads_6 : decode cX7_reads 6 = .ok (.iconst 0, 1) := by decide +kernel
theorem dX7_reads_7 : decode cX7_reads 7 = .ok (.putfield 153, 3) := by decide +kernel
theorem dX7_reads_10 : decode cX7_reads 10 = .ok (.aload_n 0, 1) := by decide +kernel
theorem dX7_reads_11 : decode cX7_reads 11 = .ok (.invokevirtual 165, 3) := by decide +kernel
theorem dX7_reads_14 : decode cX7_reads 14 = .ok (.aload_n 0, 1) := by decide +kernel
theorem dX7_reads_15 : decode cX7_reads 15 = .ok (.getfield 135, 3) := by decide +kernel
theorem dX7_reads_18 : decode cX7_reads 18 = .ok (.ifCond .eq 34, 3) := by decide +kernel
theorem dX7_reads_21 : decode cX7_reads 21 = .ok (.aload_n 0, 1) := by decide +kernel
theorem dX7_reads_22 : decode cX7_reads 22 = .ok (.getfield 132, 3) := by decide +kernel
theorem dX7_reads_25 : decode cX7_reads 25 = .ok (.aload_n 0, 1) := by decide +kernel
theorem dX7_reads_26 : decode cX7_reads 26 = .ok (.getfield 129, 3) := by decide +kernel
theorem dX7_reads_29 : decode cX7_reads 29 = .ok (.if_icmp .ge 23, 3) := by decide +kernel
theorem dX7_reads_32 : decode cX7_reads 32 = .ok (.aload_n 0, 1) := by decide +kernel
theorem dX7_reads_33 : decode cX7_reads 33 = .ok (.bipush 59, 2) := by decide +kernel
theorem dX7_reads_35 : decode cX7_reads 35 = .ok (.invokevirtual 142, 3) := by decide +kernel
theorem dX7_reads_38 : decode cX7_reads 38 = .ok (.aload_n 0, 1) := by decide +kernel
theorem dX7_reads_39 : decode cX7_reads 39 = .ok (.getfield 135, 3) := by decide +kernel
theorem dX7_reads_42 : decode cX7_reads 42 = .ok (.ifCond .eq (-28), 3) := by decide +kernel
theorem dX7_reads_45 : decode cX7_reads 45 = .ok (.aload_n 0, 1) := by decide +kernel
theorem dX7_reads_46 : decode cX7_reads 46 = .ok (.invokevirtual 165, 3) := by decide +kernel
theorem dX7_reads_49 : decode cX7_reads 49 = .ok (.goto (-35), 3) := by decide +kernel
theorem dX7_reads_52 : decode cX7_reads 52 = .ok (.aload_n 0, 1) := by decide +kernel
theorem dX7_reads_53 : decode cX7_reads 53 = .ok (.getfield 135, 3) := by decide +kernel
theorem dX7_reads_56 : decode cX7_reads 56 = .ok (.ireturn, 1) := by decide +kernel
theorem dX7_firstError_0 : decode cX7_firstError 0 = .ok (.aload_n 0, 1) := by decide +kernel
theorem dX7_firstError_1 : decode cX7_firstError 1 = .ok (.iconst 0, 1) := by decide +kernel
theorem dX7_firstError_2 : decode cX7_firstError 2 = .ok (.putfield 28, 3) := by decide +kernel
theorem dX7_firstError_5 : decode cX7_firstError 5 = .ok (.aload_n 0, 1) := by decide +kernel
theorem dX7_firstError_6 : decode cX7_firstError 6 = .ok (.invokevirtual 168, 3) := by decide +kernel
theorem dX7_firstError_9 : decode cX7_firstError 9 = .ok (.ifCond .eq 10, 3) := by decide +kernel
theorem dX7_firstError_12 : decode cX7_firstError 12 = .ok (.aload_n 0, 1) := by decide +kernel
theorem dX7_firstError_13 : decode cX7_firstError 13 = .ok (.getfield 129, 3) := by decide +kernel
theorem dX7_firstError_16 : decode cX7_firstError 16 = .ok (.goto 7, 3) := by decide +kernel
theorem dX7_firstError_19 : decode cX7_firstError 19 = .ok (.aload_n 0, 1) := by decide +kernel
theorem dX7_firstError_20 : decode cX7_firstError 20 = .ok (.getfield 132, 3) := by decide +kernel
theorem dX7_firstError_23 : decode cX7_firstError 23 = .ok (.ireturn, 1) := by decide +kernel
theorem dX7_setsAll_0 : decode cX7_setsAll 0 = .ok (.iconst 0, 1) := by decide +kernel
theorem dX7_setsAll_1 : decode cX7_setsAll 1 = .ok (.istore_n 3, 1) := by decide +kernel
theorem dX7_setsAll_2 : decode cX7_setsAll 2 = .ok (.iload_n 1, 1) := by decide +kernel
theorem dX7_setsAll_3 : decode cX7_setsAll 3 = .ok (.istore 4, 2) := by decide +kernel
theorem dX7_setsAll_5 : decode cX7_setsAll 5 = .ok (.iload 4, 2) := by decide +kernel
theorem dX7_setsAll_7 : decode cX7_setsAll 7 = .ok (.iload_n 1, 1) := by decide +kernel
theorem dX7_setsAll_8 : decode cX7_setsAll 8 = .ok (.iload_n 2, 1) := by decide +kernel
theorem dX7_setsAll_9 : decode cX7_setsAll 9 = .ok (.iadd, 1) := by decide +kernel
theorem dX7_setsAll_10 : decode cX7_setsAll 10 = .ok (.if_icmp .ge 47, 3) := by decide +kernel
theorem dX7_setsAll_13 : decode cX7_setsAll 13 = .ok (.iload_n 3, 1) := by decide +kernel
theorem dX7_setsAll_14 : decode cX7_setsAll 14 = .ok (.ifCond .ne 43, 3) := by decide +kernel
theorem dX7_setsAll_17 : decode cX7_setsAll 17 = .ok (.aload_n 0, 1) := by decide +kernel
theorem dX7_setsAll_18 : decode cX7_setsAll 18 = .ok (.aload_n 0, 1) := by decide +kernel
theorem dX7_setsAll_19 : decode cX7_setsAll 19 = .ok (.getfield 22, 3) := by decide +kernel
theorem dX7_setsAll_22 : decode cX7_setsAll 22 = .ok (.iload 4, 2) := by decide +kernel
theorem dX7_setsAll_24 : decode cX7_setsAll 24 = .ok (.iaload, 1) := by decide +kernel
theorem dX7_setsAll_25 : decode cX7_setsAll 25 = .ok (.bipush 97, 2) := by decide +kernel
theorem dX7_setsAll_27 : decode cX7_setsAll 27 = .ok (.isub, 1) := by decide +kernel
theorem dX7_setsAll_28 : decode cX7_setsAll 28 = .ok (.invokevirtual 87, 3) := by decide +kernel
theorem dX7_setsAll_31 : decode cX7_setsAll 31 = .ok (.istore_n 3, 1) := by decide +kernel
theorem dX7_setsAll_32 : decode cX7_setsAll 32 = .ok (.iload_n 3, 1) := by decide +kernel
theorem dX7_setsAll_33 : decode cX7_setsAll 33 = .ok (.ifCond .ne 18, 3) := by decide +kernel
theorem dX7_setsAll_36 : decode cX7_setsAll 36 = .ok (.aload_n 0, 1) := by decide +kernel
theorem dX7_setsAll_37 : decode cX7_setsAll 37 = .ok (.aload_n 0, 1) := by decide +kernel
theorem dX7_setsAll_38 : decode cX7_setsAll 38 = .ok (.getfield 22, 3) := by decide +kernel
theorem dX7_setsAll_41 : decode cX7_setsAll 41 = .ok (.iload 4, 2) := by decide +kernel
theorem dX7_setsAll_43 : decode cX7_setsAll 43 = .ok (.iaload, 1) := by decide +kernel
theorem dX7_setsAll_44 : decode cX7_setsAll 44 = .ok (.bipush 97, 2) := by decide +kernel
theorem dX7_setsAll_46 : decode cX7_setsAll 46 = .ok (.isub, 1) := by decide +kernel
theorem dX7_setsAll_47 : decode cX7_setsAll 47 = .ok (.invokevirtual 93, 3) := by decide +kernel
theorem dX7_setsAll_50 : decode cX7_setsAll 50 = .ok (.pop, 1) := by decide +kernel
theorem dX7_setsAll_51 : decode cX7_setsAll 51 = .ok (.iinc 4 1, 3) := by decide +kernel
theorem dX7_setsAll_54 : decode cX7_setsAll 54 = .ok (.goto (-49), 3) := by decide +kernel
theorem dX7_setsAll_57 : decode cX7_setsAll 57 = .ok (.iload_n 3, 1) := by decide +kernel
theorem dX7_setsAll_58 : decode cX7_setsAll 58 = .ok (.ireturn, 1) := by decide +kernel
theorem dX7_fixesIf_0 : decode cX7_fixesIf 0 = .ok (.aload_n 0, 1) := by decide +kernel
theorem dX7_fixesIf_1 : decode cX7_fixesIf 1 = .ok (.iload_n 1, 1) := by decide +kernel
theorem dX7_fixesIf_2 : decode cX7_fixesIf 2 = .ok (.invokevirtual 108, 3) := by decide +kernel
theorem dX7_fixesIf_5 : decode cX7_fixesIf 5 = .ok (.ifCond .eq 11, 3) := by decide +kernel
theorem dX7_fixesIf_8 : decode cX7_fixesIf 8 = .ok (.aload_n 0, 1) := by decide +kernel
theorem dX7_fixesIf_9 : decode cX7_fixesIf 9 = .ok (.iload_n 1, 1) := by decide +kernel
theorem dX7_fixesIf_10 : decode cX7_fixesIf 10 = .ok (.invokevirtual 111, 3) := by decide +kernel
theorem dX7_fixesIf_13 : decode cX7_fixesIf 13 = .ok (.goto 5, 3) := by decide +kernel
theorem dX7_fixesIf_16 : decode cX7_fixesIf 16 = .ok (.bipush 7, 2) := by decide +kernel
theorem dX7_fixesIf_18 : decode cX7_fixesIf 18 = .ok (.istore_n 2, 1) := by decide +kernel
theorem dX7_fixesIf_19 : decode cX7_fixesIf 19 = .ok (.iload_n 2, 1) := by decide +kernel
theorem dX7_fixesIf_20 : decode cX7_fixesIf 20 = .ok (.ifCond .ne 9, 3) := by decide +kernel
theorem dX7_fixesIf_23 : decode cX7_fixesIf 23 = .ok (.aload_n 0, 1) := by decide +kernel
theorem dX7_fixesIf_24 : decode cX7_fixesIf 24 = .ok (.iload_n 1, 1) := by decide +kernel
theorem dX7_fixesIf_25 : decode cX7_fixesIf 25 = .ok (.invokevirtual 114, 3) := by decide +kernel
theorem dX7_fixesIf_28 : decode cX7_fixesIf 28 = .ok (.pop, 1) := by decide +kernel
theorem dX7_fixesIf_29 : decode cX7_fixesIf 29 = .ok (.iload_n 2, 1) := by decide +kernel
theorem dX7_fixesIf_30 : decode cX7_fixesIf 30 = .ok (.ireturn, 1) := by decide +kernel
theorem dX7_returnsIf_0 : decode cX7_returnsIf 0 = .ok (.aload_n 0, 1) := by decide +kernel
theorem dX7_returnsIf_1 : decode cX7_returnsIf 1 = .ok (.invokevirtual 120, 3) := by decide +kernel
theorem dX7_returnsIf_4 : decode cX7_returnsIf 4 = .ok (.ifCond .ne 6, 3) := by decide +kernel
theorem dX7_returnsIf_7 : decode cX7_returnsIf 7 = .ok (.bipush 6, 2) := by decide +kernel
theorem dX7_returnsIf_9 : decode cX7_returnsIf 9 = .ok (.ireturn, 1) := by decide +kernel
theorem dX7_returnsIf_10 : decode cX7_returnsIf 10 = .ok (.aload_n 0, 1) := by decide +kernel
theorem dX7_returnsIf_11 : decode cX7_returnsIf 11 = .ok (.invokevirtual 123, 3) := by decide +kernel
theorem dX7_returnsIf_14 : decode cX7_returnsIf 14 = .ok (.pop, 1) := by decide +kernel
theorem dX7_returnsIf_15 : decode cX7_returnsIf 15 = .ok (.iconst 0, 1) := by decide +kernel
theorem dX7_returnsIf_16 : decode cX7_returnsIf 16 = .ok (.ireturn, 1) := by decide +kernel
theorem dX7_does_0 : decode cX7_does 0 = .ok (.aload_n 0, 1) := by decide +kernel
theorem dX7_does_1 : decode cX7_does 1 = .ok (.getfield 25, 3) := by decide +kernel
theorem dX7_does_4 : decode cX7_does 4 = .ok (.iload_n 1, 1) := by decide +kernel
theorem dX7_does_5 : decode cX7_does 5 = .ok (.iaload, 1) := by decide +kernel
theorem dX7_does_6 : decode cX7_does 6 = .ok (.tableswitch 84 1 4 #[30, 51, 64, 69], 30) := by decide +kernel
theorem dX7_does_36 : decode cX7_does 36 = .ok (.aload_n 0, 1) := by decide +kernel
theorem dX7_does_37 : decode cX7_does 37 = .ok (.aload_n 0, 1) := by decide +kernel
theorem dX7_does_38 : decode cX7_does 38 = .ok (.getfield 25, 3) := by decide +kernel
theorem dX7_does_41 : decode cX7_does 41 = .ok (.iload_n 1, 1) := by decide +kernel
theorem dX7_does_42 : decode cX7_does 42 = .ok (.iconst 1, 1) := by decide +kernel
theorem dX7_does_43 : decode cX7_does 43 = .ok (.iadd, 1) := by decide +kernel
theorem dX7_does_44 : decode cX7_does 44 = .ok (.iaload, 1) := by decide +kernel
theorem dX7_does_45 : decode cX7_does 45 = .ok (.aload_n 0, 1) := by decide +kernel
theorem dX7_does_46 : decode cX7_does 46 = .ok (.getfield 25, 3) := by decide +kernel
theorem dX7_does_49 : decode cX7_does 49 = .ok (.iload_n 1, 1) := by decide +kernel
theorem dX7_does_50 : decode cX7_does 50 = .ok (.iconst 2, 1) := by decide +kernel
theorem dX7_does_51 : decode cX7_does 51 = .ok (.iadd, 1) := by decide +kernel
theorem dX7_does_52 : decode cX7_does 52 = .ok (.iaload, 1) := by decide +kernel
theorem dX7_does_53 : decode cX7_does 53 = .ok (.invokevirtual 171, 3) := by decide +kernel
theorem dX7_does_56 : decode cX7_does 56 = .ok (.ireturn, 1) := by decide +kernel
theorem dX7_does_57 : decode cX7_does 57 = .ok (.aload_n 0, 1) := by decide +kernel
theorem dX7_does_58 : decode cX7_does 58 = .ok (.aload_n 0, 1) := by decide +kernel
theorem dX7_does_59 : decode cX7_does 59 = .ok (.getfield 25, 3) := by decide +kernel
theorem dX7_does_62 : decode cX7_does 62 = .ok (.iload_n 1, 1) := by decide +kernel
theorem dX7_does_63 : decode cX7_does 63 = .ok (.iconst 1, 1) := by decide +kernel
theorem dX7_does_64 : decode cX7_does 64 = .ok (.iadd, 1) := by decide +kernel
theorem dX7_does_65 : decode cX7_does 65 = .ok (.iaload, 1) := by decide +kernel
theorem dX7_does_66 : decode cX7_does 66 = .ok (.invokevirtual 174, 3) := by decide +kernel
theorem dX7_does_69 : decode cX7_does 69 = .ok (.ireturn, 1) := by decide +kernel
theorem dX7_does_70 : decode cX7_does 70 = .ok (.aload_n 0, 1) := by decide +kernel
theorem dX7_does_71 : decode cX7_does 71 = .ok (.invokevirtual 177, 3) := by decide +kernel
theorem dX7_does_74 : decode cX7_does 74 = .ok (.ireturn, 1) := by decide +kernel
theorem dX7_does_75 : decode cX7_does 75 = .ok (.aload_n 0, 1) := by decide +kernel
theorem dX7_does_76 : decode cX7_does 76 = .ok (.aload_n 0, 1) := by decide +kernel
theorem dX7_does_77 : decode cX7_does 77 = .ok (.getfield 25, 3) := by decide +kernel
theorem dX7_does_80 : decode cX7_does 80 = .ok (.iload_n 1, 1) := by decide +kernel
theorem dX7_does_81 : decode cX7_does 81 = .ok (.iconst 1, 1) := by decide +kernel
theorem dX7_does_82 : decode cX7_does 82 = .ok (.iadd, 1) := by decide +kernel
theorem dX7_does_83 : decode cX7_does 83 = .ok (.iaload, 1) := by decide +kernel
theorem dX7_does_84 : decode cX7_does 84 = .ok (.invokevirtual 96, 3) := by decide +kernel
theorem dX7_does_87 : decode cX7_does 87 = .ok (.pop, 1) := by decide +kernel
theorem dX7_does_88 : decode cX7_does 88 = .ok (.iconst 0, 1) := by decide +kernel
theorem dX7_does_89 : decode cX7_does 89 = .ok (.ireturn, 1) := by decide +kernel
theorem dX7_does_90 : decode cX7_does 90 = .ok (.aload_n 0, 1) := by decide +kernel
theorem dX7_does_91 : decode cX7_does 91 = .ok (.aload_n 0, 1) := by decide +kernel
theorem dX7_does_92 : decode cX7_does 92 = .ok (.getfield 25, 3) := by decide +kernel
theorem dX7_does_95 : decode cX7_does 95 = .ok (.iload_n 1, 1) := by decide +kernel
theorem dX7_does_96 : decode cX7_does 96 = .ok (.iconst 1, 1) := by decide +kernel
theorem dX7_does_97 : decode cX7_does 97 = .ok (.iadd, 1) := by decide +kernel
theorem dX7_does_98 : decode cX7_does 98 = .ok (.iaload, 1) := by decide +kernel
theorem dX7_does_99 : decode cX7_does 99 = .ok (.aload_n 0, 1) := by decide +kernel
theorem dX7_does_100 : decode cX7_does 100 = .ok (.getfield 25, 3) := by decide +kernel
theorem dX7_does_103 : decode cX7_does 103 = .ok (.iload_n 1, 1) := by decide +kernel
theorem dX7_does_104 : decode cX7_does 104 = .ok (.iconst 2, 1) := by decide +kernel
theorem dX7_does_105 : decode cX7_does 105 = .ok (.iadd, 1) := by decide +kernel
theorem dX7_does_106 : decode cX7_does 106 = .ok (.iaload, 1) := by decide +kernel
theorem dX7_does_107 : decode cX7_does 107 = .ok (.invokevirtual 126, 3) := by decide +kernel
theorem dX7_does_110 : decode cX7_does 110 = .ok (.pop, 1) := by decide +kernel
theorem dX7_does_111 : decode cX7_does 111 = .ok (.iconst 0, 1) := by decide +kernel
theorem dX7_does_112 : decode cX7_does 112 = .ok (.ireturn, 1) := by decide +kernel
theorem dX7_work_0 : decode cX7_work 0 = .ok (.aload_n 0, 1) := by decide +kernel
theorem dX7_work_1 : decode cX7_work 1 = .ok (.iconst 0, 1) := by decide +kernel
theorem dX7_work_2 : decode cX7_work 2 = .ok (.putfield 28, 3) := by decide +kernel
theorem dX7_work_5 : decode cX7_work 5 = .ok (.aload_n 0, 1) := by decide +kernel
theorem dX7_work_6 : decode cX7_work 6 = .ok (.invokevirtual 168, 3) := by decide +kernel
theorem dX7_work_9 : decode cX7_work 9 = .ok (.ifCond .ne 9, 3) := by decide +kernel
theorem dX7_work_12 : decode cX7_work 12 = .ok (.aload_n 0, 1) := by decide +kernel
theorem dX7_work_13 : decode cX7_work 13 = .ok (.iconst 1, 1) := by decide +kernel
theorem dX7_work_14 : decode cX7_work 14 = .ok (.invokevirtual 84, 3) := by decide +kernel
theorem dX7_work_17 : decode cX7_work 17 = .ok (.ireturn, 1) := by decide +kernel
theorem dX7_work_18 : decode cX7_work 18 = .ok (.aload_n 0, 1) := by decide +kernel
theorem dX7_work_19 : decode cX7_work 19 = .ok (.invokevirtual 90, 3) := by decide +kernel
theorem dX7_work_22 : decode cX7_work 22 = .ok (.iconst 0, 1) := by decide +kernel
theorem dX7_work_23 : decode cX7_work 23 = .ok (.istore_n 1, 1) := by decide +kernel
theorem dX7_work_24 : decode cX7_work 24 = .ok (.iconst 0, 1) := by decide +kernel
theorem dX7_work_25 : decode cX7_work 25 = .ok (.istore_n 2, 1) := by decide +kernel
theorem dX7_work_26 : decode cX7_work 26 = .ok (.iload_n 1, 1) := by decide +kernel
theorem dX7_work_27 : decode cX7_work 27 = .ok (.aload_n 0, 1) := by decide +kernel
theorem dX7_work_28 : decode cX7_work 28 = .ok (.getfield 153, 3) := by decide +kernel
theorem dX7_work_31 : decode cX7_work 31 = .ok (.if_icmp .ge 30, 3) := by decide +kernel
theorem dX7_work_34 : decode cX7_work 34 = .ok (.iload_n 2, 1) := by decide +kernel
theorem dX7_work_35 : decode cX7_work 35 = .ok (.ifCond .ne 26, 3) := by decide +kernel
theorem dX7_work_38 : decode cX7_work 38 = .ok (.aload_n 0, 1) := by decide +kernel
theorem dX7_work_39 : decode cX7_work 39 = .ok (.iconst 3, 1) := by decide +kernel
theorem dX7_work_40 : decode cX7_work 40 = .ok (.iload_n 1, 1) := by decide +kernel
theorem dX7_work_41 : decode cX7_work 41 = .ok (.imul, 1) := by decide +kernel
theorem dX7_work_42 : decode cX7_work 42 = .ok (.invokevirtual 180, 3) := by decide +kernel
theorem dX7_work_45 : decode cX7_work 45 = .ok (.istore_n 2, 1) := by decide +kernel
theorem dX7_work_46 : decode cX7_work 46 = .ok (.iload_n 1, 1) := by decide +kernel
theorem dX7_work_47 : decode cX7_work 47 = .ok (.iload_n 2, 1) := by decide +kernel
theorem dX7_work_48 : decode cX7_work 48 = .ok (.ifCond .ne 7, 3) := by decide +kernel
theorem dX7_work_51 : decode cX7_work 51 = .ok (.iconst 1, 1) := by decide +kernel
theorem dX7_work_52 : decode cX7_work 52 = .ok (.goto 4, 3) := by decide +kernel
theorem dX7_work_55 : decode cX7_work 55 = .ok (.iconst 0, 1) := by decide +kernel
theorem dX7_work_56 : decode cX7_work 56 = .ok (.iadd, 1) := by decide +kernel
theorem dX7_work_57 : decode cX7_work 57 = .ok (.istore_n 1, 1) := by decide +kernel
theorem dX7_work_58 : decode cX7_work 58 = .ok (.goto (-32), 3) := by decide +kernel
theorem dX7_work_61 : decode cX7_work 61 = .ok (.aload_n 0, 1) := by decide +kernel
theorem dX7_work_62 : decode cX7_work 62 = .ok (.getfield 7, 3) := by decide +kernel
theorem dX7_work_65 : decode cX7_work 65 = .ok (.bipush 10, 2) := by decide +kernel
theorem dX7_work_67 : decode cX7_work 67 = .ok (.iload_n 2, 1) := by decide +kernel
theorem dX7_work_68 : decode cX7_work 68 = .ok (.ifCond .ne 7, 3) := by decide +kernel
theorem dX7_work_71 : decode cX7_work 71 = .ok (.iconst (-1), 1) := by decide +kernel
theorem dX7_work_72 : decode cX7_work 72 = .ok (.goto 4, 3) := by decide +kernel
theorem dX7_work_75 : decode cX7_work 75 = .ok (.iload_n 1, 1) := by decide +kernel
theorem dX7_work_76 : decode cX7_work 76 = .ok (.iastore, 1) := by decide +kernel
theorem dX7_work_77 : decode cX7_work 77 = .ok (.aload_n 0, 1) := by decide +kernel
theorem dX7_work_78 : decode cX7_work 78 = .ok (.getfield 7, 3) := by decide +kernel
theorem dX7_work_81 : decode cX7_work 81 = .ok (.bipush 11, 2) := by decide +kernel
theorem dX7_work_83 : decode cX7_work 83 = .ok (.iload_n 2, 1) := by decide +kernel
theorem dX7_work_84 : decode cX7_work 84 = .ok (.ifCond .ne 7, 3) := by decide +kernel
theorem dX7_work_87 : decode cX7_work 87 = .ok (.iconst (-1), 1) := by decide +kernel
theorem dX7_work_88 : decode cX7_work 88 = .ok (.goto 4, 3) := by decide +kernel
theorem dX7_work_91 : decode cX7_work 91 = .ok (.iload_n 2, 1) := by decide +kernel
theorem dX7_work_92 : decode cX7_work 92 = .ok (.iastore, 1) := by decide +kernel
theorem dX7_work_93 : decode cX7_work 93 = .ok (.aload_n 0, 1) := by decide +kernel
theorem dX7_work_94 : decode cX7_work 94 = .ok (.iconst 0, 1) := by decide +kernel
theorem dX7_work_95 : decode cX7_work 95 = .ok (.putfield 129, 3) := by decide +kernel
theorem dX7_work_98 : decode cX7_work 98 = .ok (.iload_n 1, 1) := by decide +kernel
theorem dX7_work_99 : decode cX7_work 99 = .ok (.ireturn, 1) := by decide +kernel
theorem dX7_stopped_0 : decode cX7_stopped 0 = .ok (.aload_n 0, 1) := by decide +kernel
theorem dX7_stopped_1 : decode cX7_stopped 1 = .ok (.iconst 0, 1) := by decide +kernel
theorem dX7_stopped_2 : decode cX7_stopped 2 = .ok (.putfield 28, 3) := by decide +kernel
theorem dX7_stopped_5 : decode cX7_stopped 5 = .ok (.iload_n 1, 1) := by decide +kernel
theorem dX7_stopped_6 : decode cX7_stopped 6 = .ok (.iconst 0, 1) := by decide +kernel
theorem dX7_stopped_7 : decode cX7_stopped 7 = .ok (.iconst 1, 1) := by decide +kernel
theorem dX7_stopped_8 : decode cX7_stopped 8 = .ok (.invokestatic 36, 3) := by decide +kernel
theorem dX7_stopped_11 : decode cX7_stopped 11 = .ok (.ifCond .eq 15, 3) := by decide +kernel
theorem dX7_stopped_14 : decode cX7_stopped 14 = .ok (.aload_n 0, 1) := by decide +kernel
theorem dX7_stopped_15 : decode cX7_stopped 15 = .ok (.getfield 7, 3) := by decide +kernel
theorem dX7_stopped_18 : decode cX7_stopped 18 = .ok (.bipush 10, 2) := by decide +kernel
theorem dX7_stopped_20 : decode cX7_stopped 20 = .ok (.iload_n 1, 1) := by decide +kernel
theorem dX7_stopped_21 : decode cX7_stopped 21 = .ok (.iadd, 1) := by decide +kernel
theorem dX7_stopped_22 : decode cX7_stopped 22 = .ok (.iaload, 1) := by decide +kernel
theorem dX7_stopped_23 : decode cX7_stopped 23 = .ok (.goto 8, 3) := by decide +kernel
theorem dX7_stopped_26 : decode cX7_stopped 26 = .ok (.aload_n 0, 1) := by decide +kernel
theorem dX7_stopped_27 : decode cX7_stopped 27 = .ok (.iconst 1, 1) := by decide +kernel
theorem dX7_stopped_28 : decode cX7_stopped 28 = .ok (.invokevirtual 84, 3) := by decide +kernel
theorem dX7_stopped_31 : decode cX7_stopped 31 = .ok (.ireturn, 1) := by decide +kernel
theorem dX7_character_0 : decode cX7_character 0 = .ok (.iload_n 1, 1) := by decide +kernel
theorem dX7_character_1 : decode cX7_character 1 = .ok (.istore_n 2, 1) := by decide +kernel
theorem dX7_character_2 : decode cX7_character 2 = .ok (.iconst 0, 1) := by decide +kernel
theorem dX7_character_3 : decode cX7_character 3 = .ok (.istore_n 3, 1) := by decide +kernel
theorem dX7_character_4 : decode cX7_character 4 = .ok (.iload_n 3, 1) := by decide +kernel
theorem dX7_character_5 : decode cX7_character 5 = .ok (.aload_n 0, 1) := by decide +kernel
theorem dX7_character_6 : decode cX7_character 6 = .ok (.getfield 7, 3) := by decide +kernel
theorem dX7_character_9 : decode cX7_character 9 = .ok (.bipush 12, 2) := by decide +kernel
theorem dX7_character_11 : decode cX7_character 11 = .ok (.iaload, 1) := by decide +kernel
theorem dX7_character_12 : decode cX7_character 12 = .ok (.if_icmp .ge 57, 3) := by decide +kernel
theorem dX7_character_15 : decode cX7_character 15 = .ok (.aload_n 0, 1) := by decide +kernel
theorem dX7_character_16 : decode cX7_character 16 = .ok (.iload_n 3, 1) := by decide +kernel
theorem dX7_character_17 : decode cX7_character 17 = .ok (.invokevirtual 57, 3) := by decide +kernel
theorem dX7_character_20 : decode cX7_character 20 = .ok (.ifCond .eq 7, 3) := by decide +kernel
theorem dX7_character_23 : decode cX7_character 23 = .ok (.iconst 2, 1) := by decide +kernel
theorem dX7_character_24 : decode cX7_character 24 = .ok (.goto 4, 3) := by decide +kernel
theorem dX7_character_27 : decode cX7_character 27 = .ok (.iconst 1, 1) := by decide +kernel
theorem dX7_character_28 : decode cX7_character 28 = .ok (.istore 4, 2) := by decide +kernel
theorem dX7_character_30 : decode cX7_character 30 = .ok (.iload_n 2, 1) := by decide +kernel
theorem dX7_character_31 : decode cX7_character 31 = .ok (.iload 4, 2) := by decide +kernel
theorem dX7_character_33 : decode cX7_character 33 = .ok (.if_icmp .ge 25, 3) := by decide +kernel
theorem dX7_character_36 : decode cX7_character 36 = .ok (.iload_n 2, 1) := by decide +kernel
theorem dX7_character_37 : decode cX7_character 37 = .ok (.ifCond .ne 18, 3) := by decide +kernel
theorem dX7_character_40 : decode cX7_character 40 = .ok (.bipush 97, 2) := by decide +kernel
theorem dX7_character_42 : decode cX7_character 42 = .ok (.aload_n 0, 1) := by decide +kernel
theorem dX7_character_43 : decode cX7_character 43 = .ok (.getfield 7, 3) := by decide +kernel
theorem dX7_character_46 : decode cX7_character 46 = .ok (.bipush 13, 2) := by decide +kernel
theorem dX7_character_48 : decode cX7_character 48 = .ok (.iload_n 3, 1) := by decide +kernel
theorem dX7_character_49 : decode cX7_character 49 = .ok (.iadd, 1) := by decide +kernel
theorem dX7_character_50 : decode cX7_character 50 = .ok (.iaload, 1) := by decide +kernel
theorem dX7_character_51 : decode cX7_character 51 = .ok (.iadd, 1) := by decide +kernel
theorem dX7_character_52 : decode cX7_character 52 = .ok (.goto 5, 3) := by decide +kernel
theorem dX7_character_55 : decode cX7_character 55 = .ok (.bipush 33, 2) := by decide +kernel
theorem dX7_character_57 : decode cX7_character 57 = .ok (.ireturn, 1) := by decide +kernel
theorem dX7_character_58 : decode cX7_character 58 = .ok (.iload_n 2, 1) := by decide +kernel
theorem dX7_character_59 : decode cX7_character 59 = .ok (.iload 4, 2) := by decide +kernel
theorem dX7_character_61 : decode cX7_character 61 = .ok (.isub, 1) := by decide +kernel
theorem dX7_character_62 : decode cX7_character 62 = .ok (.istore_n 2, 1) := by decide +kernel
theorem dX7_character_63 : decode cX7_character 63 = .ok (.iinc 3 1, 3) := by decide +kernel
theorem dX7_character_66 : decode cX7_character 66 = .ok (.goto (-62), 3) := by decide +kernel
theorem dX7_character_69 : decode cX7_character 69 = .ok (.iconst (-1), 1) := by decide +kernel
theorem dX7_character_70 : decode cX7_character 70 = .ok (.ireturn, 1) := by decide +kernel
theorem dX7_told_0 : decode cX7_told 0 = .ok (.aload_n 0, 1) := by decide +kernel
theorem dX7_told_1 : decode cX7_told 1 = .ok (.iconst 0, 1) := by decide +kernel
theorem dX7_told_2 : decode cX7_told 2 = .ok (.putfield 28, 3) := by decide +kernel
theorem dX7_told_5 : decode cX7_told 5 = .ok (.iload_n 1, 1) := by decide +kernel
theorem dX7_told_6 : decode cX7_told 6 = .ok (.ifCond .ge 11, 3) := by decide +kernel
theorem dX7_told_9 : decode cX7_told 9 = .ok (.aload_n 0, 1) := by decide +kernel
theorem dX7_told_10 : decode cX7_told 10 = .ok (.iconst 1, 1) := by decide +kernel
theorem dX7_told_11 : decode cX7_told 11 = .ok (.invokevirtual 84, 3) := by decide +kernel
theorem dX7_told_14 : decode cX7_told 14 = .ok (.goto 8, 3) := by decide +kernel
theorem dX7_told_17 : decode cX7_told 17 = .ok (.aload_n 0, 1) := by decide +kernel
theorem dX7_told_18 : decode cX7_told 18 = .ok (.iload_n 1, 1) := by decide +kernel
theorem dX7_told_19 : decode cX7_told 19 = .ok (.invokevirtual 183, 3) := by decide +kernel
theorem dX7_told_22 : decode cX7_told 22 = .ok (.ireturn, 1) := by decide +kernel
theorem dX7_undo_0 : decode cX7_undo 0 = .ok (.aload_n 0, 1) := by decide +kernel
theorem dX7_undo_1 : decode cX7_undo 1 = .ok (.iconst 0, 1) := by decide +kernel
theorem dX7_undo_2 : decode cX7_undo 2 = .ok (.putfield 28, 3) := by decide +kernel
theorem dX7_undo_5 : decode cX7_undo 5 = .ok (.aload_n 0, 1) := by decide +kernel
theorem dX7_undo_6 : decode cX7_undo 6 = .ok (.getfield 51, 3) := by decide +kernel
theorem dX7_undo_9 : decode cX7_undo 9 = .ok (.ifCond .ne 9, 3) := by decide +kernel
theorem dX7_undo_12 : decode cX7_undo 12 = .ok (.aload_n 0, 1) := by decide +kernel
theorem dX7_undo_13 : decode cX7_undo 13 = .ok (.iconst 1, 1) := by decide +kernel
theorem dX7_undo_14 : decode cX7_undo 14 = .ok (.invokevirtual 84, 3) := by decide +kernel
theorem dX7_undo_17 : decode cX7_undo 17 = .ok (.ireturn, 1) := by decide +kernel
theorem dX7_undo_18 : decode cX7_undo 18 = .ok (.aload_n 0, 1) := by decide +kernel
theorem dX7_undo_19 : decode cX7_undo 19 = .ok (.dup, 1) := by decide +kernel
theorem dX7_undo_20 : decode cX7_undo 20 = .ok (.getfield 51, 3) := by decide +kernel
theorem dX7_undo_23 : decode cX7_undo 23 = .ok (.iconst 1, 1) := by decide +kernel
theorem dX7_undo_24 : decode cX7_undo 24 = .ok (.isub, 1) := by decide +kernel
theorem dX7_undo_25 : decode cX7_undo 25 = .ok (.putfield 51, 3) := by decide +kernel
theorem dX7_undo_28 : decode cX7_undo 28 = .ok (.iconst 0, 1) := by decide +kernel
theorem dX7_undo_29 : decode cX7_undo 29 = .ok (.istore_n 1, 1) := by decide +kernel
theorem dX7_undo_30 : decode cX7_undo 30 = .ok (.iload_n 1, 1) := by decide +kernel
theorem dX7_undo_31 : decode cX7_undo 31 = .ok (.sipush 350, 3) := by decide +kernel
theorem dX7_undo_34 : decode cX7_undo 34 = .ok (.if_icmp .ge 30, 3) := by decide +kernel
theorem dX7_undo_37 : decode cX7_undo 37 = .ok (.aload_n 0, 1) := by decide +kernel
theorem dX7_undo_38 : decode cX7_undo 38 = .ok (.getfield 7, 3) := by decide +kernel
theorem dX7_undo_41 : decode cX7_undo 41 = .ok (.iload_n 1, 1) := by decide +kernel
theorem dX7_undo_42 : decode cX7_undo 42 = .ok (.aload_n 0, 1) := by decide +kernel
theorem dX7_undo_43 : decode cX7_undo 43 = .ok (.getfield 16, 3) := by decide +kernel
theorem dX7_undo_46 : decode cX7_undo 46 = .ok (.sipush 350, 3) := by decide +kernel
theorem dX7_undo_49 : decode cX7_undo 49 = .ok (.aload_n 0, 1) := by decide +kernel
theorem dX7_undo_50 : decode cX7_undo 50 = .ok (.getfield 51, 3) := by decide +kernel
theorem dX7_undo_53 : decode cX7_undo 53 = .ok (.imul, 1) := by decide +kernel
theorem dX7_undo_54 : decode cX7_undo 54 = .ok (.iload_n 1, 1) := by decide +kernel
theorem dX7_undo_55 : decode cX7_undo 55 = .ok (.iadd, 1) := by decide +kernel
theorem dX7_undo_56 : decode cX7_undo 56 = .ok (.iaload, 1) := by decide +kernel
theorem dX7_undo_57 : decode cX7_undo 57 = .ok (.iastore, 1) := by decide +kernel
theorem dX7_undo_58 : decode cX7_undo 58 = .ok (.iinc 1 1, 3) := by decide +kernel
theorem dX7_undo_61 : decode cX7_undo 61 = .ok (.goto (-31), 3) := by decide +kernel
theorem dX7_undo_64 : decode cX7_undo 64 = .ok (.aload_n 0, 1) := by decide +kernel
theorem dX7_undo_65 : decode cX7_undo 65 = .ok (.getfield 51, 3) := by decide +kernel
theorem dX7_undo_68 : decode cX7_undo 68 = .ok (.ireturn, 1) := by decide +kernel
theorem dX7_keep_0 : decode cX7_keep 0 = .ok (.aload_n 0, 1) := by decide +kernel
theorem dX7_keep_1 : decode cX7_keep 1 = .ok (.iconst 0, 1) := by decide +kernel
theorem dX7_keep_2 : decode cX7_keep 2 = .ok (.putfield 28, 3) := by decide +kernel
theorem dX7_keep_5 : decode cX7_keep 5 = .ok (.iconst 0, 1) := by decide +kernel
theorem dX7_keep_6 : decode cX7_keep 6 = .ok (.istore_n 1, 1) := by decide +kernel
theorem dX7_keep_7 : decode cX7_keep 7 = .ok (.iload_n 1, 1) := by decide +kernel
theorem dX7_keep_8 : decode cX7_keep 8 = .ok (.sipush 350, 3) := by decide +kernel
theorem dX7_keep_11 : decode cX7_keep 11 = .ok (.if_icmp .ge 21, 3) := by decide +kernel
theorem dX7_keep_14 : decode cX7_keep 14 = .ok (.aload_n 0, 1) := by decide +kernel
theorem dX7_keep_15 : decode cX7_keep 15 = .ok (.getfield 19, 3) := by decide +kernel
theorem dX7_keep_18 : decode cX7_keep 18 = .ok (.iload_n 1, 1) := by decide +kernel
theorem dX7_keep_19 : decode cX7_keep 19 = .ok (.aload_n 0, 1) := by decide +kernel
theorem dX7_keep_20 : decode cX7_keep 20 = .ok (.getfield 7, 3) := by decide +kernel
theorem dX7_keep_23 : decode cX7_keep 23 = .ok (.iload_n 1, 1) := by decide +kernel
theorem dX7_keep_24 : decode cX7_keep 24 = .ok (.iaload, 1) := by decide +kernel
theorem dX7_keep_25 : decode cX7_keep 25 = .ok (.iastore, 1) := by decide +kernel
theorem dX7_keep_26 : decode cX7_keep 26 = .ok (.iinc 1 1, 3) := by decide +kernel
theorem dX7_keep_29 : decode cX7_keep 29 = .ok (.goto (-22), 3) := by decide +kernel
theorem dX7_keep_32 : decode cX7_keep 32 = .ok (.aload_n 0, 1) := by decide +kernel
theorem dX7_keep_33 : decode cX7_keep 33 = .ok (.iconst 1, 1) := by decide +kernel
theorem dX7_keep_34 : decode cX7_keep 34 = .ok (.putfield 186, 3) := by decide +kernel
theorem dX7_keep_37 : decode cX7_keep 37 = .ok (.aload_n 0, 1) := by decide +kernel
theorem dX7_keep_38 : decode cX7_keep 38 = .ok (.getfield 7, 3) := by decide +kernel
theorem dX7_keep_41 : decode cX7_keep 41 = .ok (.bipush 12, 2) := by decide +kernel
theorem dX7_keep_43 : decode cX7_keep 43 = .ok (.iaload, 1) := by decide +kernel
theorem dX7_keep_44 : decode cX7_keep 44 = .ok (.ireturn, 1) := by decide +kernel
theorem dX7_restore_0 : decode cX7_restore 0 = .ok (.aload_n 0, 1) := by decide +kernel
theorem dX7_restore_1 : decode cX7_restore 1 = .ok (.iconst 0, 1) := by decide +kernel
theorem dX7_restore_2 : decode cX7_restore 2 = .ok (.putfield 28, 3) := by decide +kernel
theorem dX7_restore_5 : decode cX7_restore 5 = .ok (.aload_n 0, 1) := by decide +kernel
theorem dX7_restore_6 : decode cX7_restore 6 = .ok (.getfield 186, 3) := by decide +kernel
theorem dX7_restore_9 : decode cX7_restore 9 = .ok (.ifCond .ne 9, 3) := by decide +kernel
theorem dX7_restore_12 : decode cX7_restore 12 = .ok (.aload_n 0, 1) := by decide +kernel
theorem dX7_restore_13 : decode cX7_restore 13 = .ok (.iconst 1, 1) := by decide +kernel
theorem dX7_restore_14 : decode cX7_restore 14 = .ok (.invokevirtual 84, 3) := by decide +kernel
theorem dX7_restore_17 : decode cX7_restore 17 = .ok (.ireturn, 1) := by decide +kernel
theorem dX7_restore_18 : decode cX7_restore 18 = .ok (.aload_n 0, 1) := by decide +kernel
theorem dX7_restore_19 : decode cX7_restore 19 = .ok (.invokevirtual 90, 3) := by decide +kernel
theorem dX7_restore_22 : decode cX7_restore 22 = .ok (.iconst 0, 1) := by decide +kernel
theorem dX7_restore_23 : decode cX7_restore 23 = .ok (.istore_n 1, 1) := by decide +kernel
theorem dX7_restore_24 : decode cX7_restore 24 = .ok (.iload_n 1, 1) := by decide +kernel
theorem dX7_restore_25 : decode cX7_restore 25 = .ok (.sipush 350, 3) := by decide +kernel
theorem dX7_restore_28 : decode cX7_restore 28 = .ok (.if_icmp .ge 21, 3) := by decide +kernel
theorem dX7_restore_31 : decode cX7_restore 31 = .ok (.aload_n 0, 1) := by decide +kernel
theorem dX7_restore_32 : decode cX7_restore 32 = .ok (.getfield 7, 3) := by decide +kernel
theorem dX7_restore_35 : decode cX7_restore 35 = .ok (.iload_n 1, 1) := by decide +kernel
theorem dX7_restore_36 : decode cX7_restore 36 = .ok (.aload_n 0, 1) := by decide +kernel
theorem dX7_restore_37 : decode cX7_restore 37 = .ok (.getfield 19, 3) := by decide +kernel
theorem dX7_restore_40 : decode cX7_restore 40 = .ok (.iload_n 1, 1) := by decide +kernel
theorem dX7_restore_41 : decode cX7_restore 41 = .ok (.iaload, 1) := by decide +kernel
theorem dX7_restore_42 : decode cX7_restore 42 = .ok (.iastore, 1) := by decide +kernel
theorem dX7_restore_43 : decode cX7_restore 43 = .ok (.iinc 1 1, 3) := by decide +kernel
theorem dX7_restore_46 : decode cX7_restore 46 = .ok (.goto (-22), 3) := by decide +kernel
theorem dX7_restore_49 : decode cX7_restore 49 = .ok (.aload_n 0, 1) := by decide +kernel
theorem dX7_restore_50 : decode cX7_restore 50 = .ok (.getfield 7, 3) := by decide +kernel
theorem dX7_restore_53 : decode cX7_restore 53 = .ok (.bipush 12, 2) := by decide +kernel
theorem dX7_restore_55 : decode cX7_restore 55 = .ok (.iaload, 1) := by decide +kernel
theorem dX7_restore_56 : decode cX7_restore 56 = .ok (.ireturn, 1) := by decide +kernel
theorem dX7_tellsBox_0 : decode cX7_tellsBox 0 = .ok (.iload_n 2, 1) := by decide +kernel
theorem dX7_tellsBox_1 : decode cX7_tellsBox 1 = .ok (.tableswitch 94 0 5 #[39, 45, 51, 57, 62, 78], 39) := by decide +kernel
theorem dX7_tellsBox_40 : decode cX7_tellsBox 40 = .ok (.aload_n 0, 1) := by decide +kernel
theorem dX7_tellsBox_41 : decode cX7_tellsBox 41 = .ok (.iload_n 1, 1) := by decide +kernel
theorem dX7_tellsBox_42 : decode cX7_tellsBox 42 = .ok (.invokevirtual 40, 3) := by decide +kernel
theorem dX7_tellsBox_45 : decode cX7_tellsBox 45 = .ok (.ireturn, 1) := by decide +kernel
theorem dX7_tellsBox_46 : decode cX7_tellsBox 46 = .ok (.aload_n 0, 1) := by decide +kernel
theorem dX7_tellsBox_47 : decode cX7_tellsBox 47 = .ok (.iload_n 1, 1) := by decide +kernel
theorem dX7_tellsBox_48 : decode cX7_tellsBox 48 = .ok (.invokevirtual 61, 3) := by decide +kernel
theorem dX7_tellsBox_51 : decode cX7_tellsBox 51 = .ok (.ireturn, 1) := by decide +kernel
theorem dX7_tellsBox_52 : decode cX7_tellsBox 52 = .ok (.aload_n 0, 1) := by decide +kernel
theorem dX7_tellsBox_53 : decode cX7_tellsBox 53 = .ok (.iload_n 1, 1) := by decide +kernel
theorem dX7_tellsBox_54 : decode cX7_tellsBox 54 = .ok (.invokevirtual 64, 3) := by decide +kernel
theorem dX7_tellsBox_57 : decode cX7_tellsBox 57 = .ok (.ireturn, 1) := by decide +kernel
theorem dX7_tellsBox_58 : decode cX7_tellsBox 58 = .ok (.iload_n 1, 1) := by decide +kernel
theorem dX7_tellsBox_59 : decode cX7_tellsBox 59 = .ok (.invokestatic 54, 3) := by decide +kernel
theorem dX7_tellsBox_62 : decode cX7_tellsBox 62 = .ok (.ireturn, 1) := by decide +kernel
theorem dX7_tellsBox_63 : decode cX7_tellsBox 63 = .ok (.aload_n 0, 1) := by decide +kernel
theorem dX7_tellsBox_64 : decode cX7_tellsBox 64 = .ok (.getfield 7, 3) := by decide +kernel
theorem dX7_tellsBox_67 : decode cX7_tellsBox 67 = .ok (.iconst 3, 1) := by decide +kernel
theorem dX7_tellsBox_68 : decode cX7_tellsBox 68 = .ok (.iaload, 1) := by decide +kernel
theorem dX7_tellsBox_69 : decode cX7_tellsBox 69 = .ok (.iload_n 1, 1) := by decide +kernel
theorem dX7_tellsBox_70 : decode cX7_tellsBox 70 = .ok (.if_icmp .ne 7, 3) := by decide +kernel
theorem dX7_tellsBox_73 : decode cX7_tellsBox 73 = .ok (.iconst 1, 1) := by decide +kernel
theorem dX7_tellsBox_74 : decode cX7_tellsBox 74 = .ok (.goto 4, 3) := by decide +kernel
theorem dX7_tellsBox_77 : decode cX7_tellsBox 77 = .ok (.iconst 0, 1) := by decide +kernel
theorem dX7_tellsBox_78 : decode cX7_tellsBox 78 = .ok (.ireturn, 1) := by decide +kernel
theorem dX7_tellsBox_79 : decode cX7_tellsBox 79 = .ok (.aload_n 0, 1) := by decide +kernel
theorem dX7_tellsBox_80 : decode cX7_tellsBox 80 = .ok (.getfield 7, 3) := by decide +kernel
theorem dX7_tellsBox_83 : decode cX7_tellsBox 83 = .ok (.iconst 4, 1) := by decide +kernel
theorem dX7_tellsBox_84 : decode cX7_tellsBox 84 = .ok (.iaload, 1) := by decide +kernel
theorem dX7_tellsBox_85 : decode cX7_tellsBox 85 = .ok (.iload_n 1, 1) := by decide +kernel
theorem dX7_tellsBox_86 : decode cX7_tellsBox 86 = .ok (.if_icmp .ne 7, 3) := by decide +kernel
theorem dX7_tellsBox_89 : decode cX7_tellsBox 89 = .ok (.iconst 1, 1) := by decide +kernel
theorem dX7_tellsBox_90 : decode cX7_tellsBox 90 = .ok (.goto 4, 3) := by decide +kernel
theorem dX7_tellsBox_93 : decode cX7_tellsBox 93 = .ok (.iconst 0, 1) := by decide +kernel
theorem dX7_tellsBox_94 : decode cX7_tellsBox 94 = .ok (.ireturn, 1) := by decide +kernel
theorem dX7_tellsBox_95 : decode cX7_tellsBox 95 = .ok (.aload_n 0, 1) := by decide +kernel
theorem dX7_tellsBox_96 : decode cX7_tellsBox 96 = .ok (.iload_n 1, 1) := by decide +kernel
theorem dX7_tellsBox_97 : decode cX7_tellsBox 97 = .ok (.invokevirtual 189, 3) := by decide +kernel
theorem dX7_tellsBox_100 : decode cX7_tellsBox 100 = .ok (.ireturn, 1) := by decide +kernel
theorem dX7_box_0 : decode cX7_box 0 = .ok (.aload_n 0, 1) := by decide +kernel
theorem dX7_box_1 : decode cX7_box 1 = .ok (.iconst 0, 1) := by decide +kernel
theorem dX7_box_2 : decode cX7_box 2 = .ok (.putfield 28, 3) := by decide +kernel
theorem dX7_box_5 : decode cX7_box 5 = .ok (.iload_n 1, 1) := by decide +kernel
theorem dX7_box_6 : decode cX7_box 6 = .ok (.invokestatic 81, 3) := by decide +kernel
theorem dX7_box_9 : decode cX7_box 9 = .ok (.ifCond .ne 9, 3) := by decide +kernel
theorem dX7_box_12 : decode cX7_box 12 = .ok (.aload_n 0, 1) := by decide +kernel
theorem dX7_box_13 : decode cX7_box 13 = .ok (.iconst 1, 1) := by decide +kernel
theorem dX7_box_14 : decode cX7_box 14 = .ok (.invokevirtual 84, 3) := by decide +kernel
theorem dX7_box_17 : decode cX7_box 17 = .ok (.ireturn, 1) := by decide +kernel
theorem dX7_box_18 : decode cX7_box 18 = .ok (.iload_n 2, 1) := by decide +kernel
theorem dX7_box_19 : decode cX7_box 19 = .ok (.iconst 0, 1) := by decide +kernel
theorem dX7_box_20 : decode cX7_box 20 = .ok (.bipush 6, 2) := by decide +kernel
theorem dX7_box_22 : decode cX7_box 22 = .ok (.invokestatic 36, 3) := by decide +kernel
theorem dX7_box_25 : decode cX7_box 25 = .ok (.ifCond .eq 12, 3) := by decide +kernel
theorem dX7_box_28 : decode cX7_box 28 = .ok (.aload_n 0, 1) := by decide +kernel
theorem dX7_box_29 : decode cX7_box 29 = .ok (.iload_n 1, 1) := by decide +kernel
theorem dX7_box_30 : decode cX7_box 30 = .ok (.iload_n 2, 1) := by decide +kernel
theorem dX7_box_31 : decode cX7_box 31 = .ok (.invokevirtual 192, 3) := by decide +kernel
theorem dX7_box_34 : decode cX7_box 34 = .ok (.goto 8, 3) := by decide +kernel
theorem dX7_box_37 : decode cX7_box 37 = .ok (.aload_n 0, 1) := by decide +kernel
theorem dX7_box_38 : decode cX7_box 38 = .ok (.iconst 2, 1) := by decide +kernel
theorem dX7_box_39 : decode cX7_box 39 = .ok (.invokevirtual 84, 3) := by decide +kernel
theorem dX7_box_42 : decode cX7_box 42 = .ok (.ireturn, 1) := by decide +kernel
theorem dX7_type_0 : decode cX7_type 0 = .ok (.aload_n 0, 1) := by decide +kernel
theorem dX7_type_1 : decode cX7_type 1 = .ok (.iconst 0, 1) := by decide +kernel
theorem dX7_type_2 : decode cX7_type 2 = .ok (.putfield 28, 3) := by decide +kernel
theorem dX7_type_5 : decode cX7_type 5 = .ok (.iload_n 1, 1) := by decide +kernel
theorem dX7_type_6 : decode cX7_type 6 = .ok (.invokestatic 81, 3) := by decide +kernel
theorem dX7_type_9 : decode cX7_type 9 = .ok (.ifCond .ne 9, 3) := by decide +kernel
theorem dX7_type_12 : decode cX7_type 12 = .ok (.aload_n 0, 1) := by decide +kernel
theorem dX7_type_13 : decode cX7_type 13 = .ok (.iconst 1, 1) := by decide +kernel
theorem dX7_type_14 : decode cX7_type 14 = .ok (.invokevirtual 84, 3) := by decide +kernel
theorem dX7_type_17 : decode cX7_type 17 = .ok (.ireturn, 1) := by decide +kernel
theorem dX7_type_18 : decode cX7_type 18 = .ok (.iload_n 2, 1) := by decide +kernel
theorem dX7_type_19 : decode cX7_type 19 = .ok (.ifCond .ge 9, 3) := by decide +kernel
theorem dX7_type_22 : decode cX7_type 22 = .ok (.aload_n 0, 1) := by decide +kernel
theorem dX7_type_23 : decode cX7_type 23 = .ok (.iconst 2, 1) := by decide +kernel
theorem dX7_type_24 : decode cX7_type 24 = .ok (.invokevirtual 84, 3) := by decide +kernel
theorem dX7_type_27 : decode cX7_type 27 = .ok (.ireturn, 1) := by decide +kernel
theorem dX7_type_28 : decode cX7_type 28 = .ok (.iload_n 2, 1) := by decide +kernel
theorem dX7_type_29 : decode cX7_type 29 = .ok (.aload_n 0, 1) := by decide +kernel
theorem dX7_type_30 : decode cX7_type 30 = .ok (.iload_n 1, 1) := by decide +kernel
theorem dX7_type_31 : decode cX7_type 31 = .ok (.invokevirtual 40, 3) := by decide +kernel
theorem dX7_type_34 : decode cX7_type 34 = .ok (.if_icmp .ge 20, 3) := by decide +kernel
theorem dX7_type_37 : decode cX7_type 37 = .ok (.aload_n 0, 1) := by decide +kernel
theorem dX7_type_38 : decode cX7_type 38 = .ok (.iload_n 1, 1) := by decide +kernel
theorem dX7_type_39 : decode cX7_type 39 = .ok (.aload_n 0, 1) := by decide +kernel
theorem dX7_type_40 : decode cX7_type 40 = .ok (.iload_n 1, 1) := by decide +kernel
theorem dX7_type_41 : decode cX7_type 41 = .ok (.invokevirtual 40, 3) := by decide +kernel
theorem dX7_type_44 : decode cX7_type 44 = .ok (.iconst 1, 1) := by decide +kernel
theorem dX7_type_45 : decode cX7_type 45 = .ok (.isub, 1) := by decide +kernel
theorem dX7_type_46 : decode cX7_type 46 = .ok (.iload_n 2, 1) := by decide +kernel
theorem dX7_type_47 : decode cX7_type 47 = .ok (.isub, 1) := by decide +kernel
theorem dX7_type_48 : decode cX7_type 48 = .ok (.invokevirtual 44, 3) := by decide +kernel
theorem dX7_type_51 : decode cX7_type 51 = .ok (.goto 4, 3) := by decide +kernel
theorem dX7_type_54 : decode cX7_type 54 = .ok (.iconst (-1), 1) := by decide +kernel
theorem dX7_type_55 : decode cX7_type 55 = .ok (.ireturn, 1) := by decide +kernel
theorem dX7_tellsPlace_0 : decode cX7_tellsPlace 0 = .ok (.iload_n 2, 1) := by decide +kernel
theorem dX7_tellsPlace_1 : decode cX7_tellsPlace 1 = .ok (.ifCond .ne 15, 3) := by decide +kernel
theorem dX7_tellsPlace_4 : decode cX7_tellsPlace 4 = .ok (.aload_n 0, 1) := by decide +kernel
theorem dX7_tellsPlace_5 : decode cX7_tellsPlace 5 = .ok (.getfield 7, 3) := by decide +kernel
theorem dX7_tellsPlace_8 : decode cX7_tellsPlace 8 = .ok (.bipush 13, 2) := by decide +kernel
theorem dX7_tellsPlace_10 : decode cX7_tellsPlace 10 = .ok (.iload_n 1, 1) := by decide +kernel
theorem dX7_tellsPlace_11 : decode cX7_tellsPlace 11 = .ok (.iadd, 1) := by decide +kernel
theorem dX7_tellsPlace_12 : decode cX7_tellsPlace 12 = .ok (.iaload, 1) := by decide +kernel
theorem dX7_tellsPlace_13 : decode cX7_tellsPlace 13 = .ok (.goto 46, 3) := by decide +kernel
theorem dX7_tellsPlace_16 : decode cX7_tellsPlace 16 = .ok (.iload_n 2, 1) := by decide +kernel
theorem dX7_tellsPlace_17 : decode cX7_tellsPlace 17 = .ok (.iconst 1, 1) := by decide +kernel
theorem dX7_tellsPlace_18 : decode cX7_tellsPlace 18 = .ok (.if_icmp .ne 15, 3) := by decide +kernel
theorem dX7_tellsPlace_21 : decode cX7_tellsPlace 21 = .ok (.aload_n 0, 1) := by decide +kernel
theorem dX7_tellsPlace_22 : decode cX7_tellsPlace 22 = .ok (.getfield 7, 3) := by decide +kernel
theorem dX7_tellsPlace_25 : decode cX7_tellsPlace 25 = .ok (.bipush 54, 2) := by decide +kernel
theorem dX7_tellsPlace_27 : decode cX7_tellsPlace 27 = .ok (.iload_n 1, 1) := by decide +kernel
theorem dX7_tellsPlace_28 : decode cX7_tellsPlace 28 = .ok (.iadd, 1) := by decide +kernel
theorem dX7_tellsPlace_29 : decode cX7_tellsPlace 29 = .ok (.iaload, 1) := by decide +kernel
theorem dX7_tellsPlace_30 : decode cX7_tellsPlace 30 = .ok (.goto 29, 3) := by decide +kernel
theorem dX7_tellsPlace_33 : decode cX7_tellsPlace 33 = .ok (.iload_n 2, 1) := by decide +kernel
theorem dX7_tellsPlace_34 : decode cX7_tellsPlace 34 = .ok (.iconst 2, 1) := by decide +kernel
theorem dX7_tellsPlace_35 : decode cX7_tellsPlace 35 = .ok (.if_icmp .ne 19, 3) := by decide +kernel
theorem dX7_tellsPlace_38 : decode cX7_tellsPlace 38 = .ok (.aload_n 0, 1) := by decide +kernel
theorem dX7_tellsPlace_39 : decode cX7_tellsPlace 39 = .ok (.iload_n 1, 1) := by decide +kernel
theorem dX7_tellsPlace_40 : decode cX7_tellsPlace 40 = .ok (.invokevirtual 57, 3) := by decide +kernel
theorem dX7_tellsPlace_43 : decode cX7_tellsPlace 43 = .ok (.ifCond .eq 7, 3) := by decide +kernel
theorem dX7_tellsPlace_46 : decode cX7_tellsPlace 46 = .ok (.iconst 1, 1) := by decide +kernel
theorem dX7_tellsPlace_47 : decode cX7_tellsPlace 47 = .ok (.goto 12, 3) := by decide +kernel
theorem dX7_tellsPlace_50 : decode cX7_tellsPlace 50 = .ok (.iconst 0, 1) := by decide +kernel
theorem dX7_tellsPlace_51 : decode cX7_tellsPlace 51 = .ok (.goto 8, 3) := by decide +kernel
theorem dX7_tellsPlace_54 : decode cX7_tellsPlace 54 = .ok (.aload_n 0, 1) := by decide +kernel
theorem dX7_tellsPlace_55 : decode cX7_tellsPlace 55 = .ok (.iload_n 1, 1) := by decide +kernel
theorem dX7_tellsPlace_56 : decode cX7_tellsPlace 56 = .ok (.invokevirtual 111, 3) := by decide +kernel
theorem dX7_tellsPlace_59 : decode cX7_tellsPlace 59 = .ok (.ireturn, 1) := by decide +kernel
theorem dX7_line_0 : decode cX7_line 0 = .ok (.aload_n 0, 1) := by decide +kernel
theorem dX7_line_1 : decode cX7_line 1 = .ok (.iconst 0, 1) := by decide +kernel
theorem dX7_line_2 : decode cX7_line 2 = .ok (.putfield 28, 3) := by decide +kernel
theorem dX7_line_5 : decode cX7_line 5 = .ok (.aload_n 0, 1) := by decide +kernel
theorem dX7_line_6 : decode cX7_line 6 = .ok (.iload_n 1, 1) := by decide +kernel
theorem dX7_line_7 : decode cX7_line 7 = .ok (.invokevirtual 108, 3) := by decide +kernel
theorem dX7_line_10 : decode cX7_line 10 = .ok (.ifCond .ne 9, 3) := by decide +kernel
theorem dX7_line_13 : decode cX7_line 13 = .ok (.aload_n 0, 1) := by decide +kernel
theorem dX7_line_14 : decode cX7_line 14 = .ok (.iconst 1, 1) := by decide +kernel
theorem dX7_line_15 : decode cX7_line 15 = .ok (.invokevirtual 84, 3) := by decide +kernel
theorem dX7_line_18 : decode cX7_line 18 = .ok (.ireturn, 1) := by decide +kernel
theorem dX7_line_19 : decode cX7_line 19 = .ok (.iload_n 2, 1) := by decide +kernel
theorem dX7_line_20 : decode cX7_line 20 = .ok (.iconst 0, 1) := by decide +kernel
theorem dX7_line_21 : decode cX7_line 21 = .ok (.iconst 3, 1) := by decide +kernel
theorem dX7_line_22 : decode cX7_line 22 = .ok (.invokestatic 36, 3) := by decide +kernel
theorem dX7_line_25 : decode cX7_line 25 = .ok (.ifCond .eq 12, 3) := by decide +kernel
theorem dX7_line_28 : decode cX7_line 28 = .ok (.aload_n 0, 1) := by decide +kernel
theorem dX7_line_29 : decode cX7_line 29 = .ok (.iload_n 1, 1) := by decide +kernel
theorem dX7_line_30 : decode cX7_line 30 = .ok (.iload_n 2, 1) := by decide +kernel
theorem dX7_line_31 : decode cX7_line 31 = .ok (.invokevirtual 195, 3) := by decide +kernel
theorem dX7_line_34 : decode cX7_line 34 = .ok (.goto 8, 3) := by decide +kernel
theorem dX7_line_37 : decode cX7_line 37 = .ok (.aload_n 0, 1) := by decide +kernel
theorem dX7_line_38 : decode cX7_line 38 = .ok (.iconst 2, 1) := by decide +kernel
theorem dX7_line_39 : decode cX7_line 39 = .ok (.invokevirtual 84, 3) := by decide +kernel
theorem dX7_line_42 : decode cX7_line 42 = .ok (.ireturn, 1) := by decide +kernel
theorem dX7_tellsCount_0 : decode cX7_tellsCount 0 = .ok (.iload_n 1, 1) := by decide +kernel
theorem dX7_tellsCount_1 : decode cX7_tellsCount 1 = .ok (.tableswitch 145 0 17 #[87, 95, 100, 105, 110, 110, 115, 128, 128, 128, 128, 128, 128, 128, 145, 145, 145, 140], 87) := by decide +kernel
theorem dX7_tellsCount_88 : decode cX7_tellsCount 88 = .ok (.aload_n 0, 1) := by decide +kernel
theorem dX7_tellsCount_89 : decode cX7_tellsCount 89 = .ok (.getfield 7, 3) := by decide +kernel
theorem dX7_tellsCount_92 : decode cX7_tellsCount 92 = .ok (.bipush 12, 2) := by decide +kernel
theorem dX7_tellsCount_94 : decode cX7_tellsCount 94 = .ok (.iaload, 1) := by decide +kernel
theorem dX7_tellsCount_95 : decode cX7_tellsCount 95 = .ok (.ireturn, 1) := by decide +kernel
theorem dX7_tellsCount_96 : decode cX7_tellsCount 96 = .ok (.aload_n 0, 1) := by decide +kernel
theorem dX7_tellsCount_97 : decode cX7_tellsCount 97 = .ok (.invokevirtual 74, 3) := by decide +kernel
theorem dX7_tellsCount_100 : decode cX7_tellsCount 100 = .ok (.ireturn, 1) := by decide +kernel
theorem dX7_tellsCount_101 : decode cX7_tellsCount 101 = .ok (.aload_n 0, 1) := by decide +kernel
theorem dX7_tellsCount_102 : decode cX7_tellsCount 102 = .ok (.invokevirtual 105, 3) := by decide +kernel
theorem dX7_tellsCount_105 : decode cX7_tellsCount 105 = .ok (.ireturn, 1) := by decide +kernel
theorem dX7_tellsCount_106 : decode cX7_tellsCount 106 = .ok (.aload_n 0, 1) := by decide +kernel
theorem dX7_tellsCount_107 : decode cX7_tellsCount 107 = .ok (.invokevirtual 198, 3) := by decide +kernel
theorem dX7_tellsCount_110 : decode cX7_tellsCount 110 = .ok (.ireturn, 1) := by decide +kernel
theorem dX7_tellsCount_111 : decode cX7_tellsCount 111 = .ok (.aload_n 0, 1) := by decide +kernel
theorem dX7_tellsCount_112 : decode cX7_tellsCount 112 = .ok (.invokevirtual 117, 3) := by decide +kernel
theorem dX7_tellsCount_115 : decode cX7_tellsCount 115 = .ok (.ireturn, 1) := by decide +kernel
theorem dX7_tellsCount_116 : decode cX7_tellsCount 116 = .ok (.aload_n 0, 1) := by decide +kernel
theorem dX7_tellsCount_117 : decode cX7_tellsCount 117 = .ok (.invokevirtual 117, 3) := by decide +kernel
theorem dX7_tellsCount_120 : decode cX7_tellsCount 120 = .ok (.ifCond .ne 7, 3) := by decide +kernel
theorem dX7_tellsCount_123 : decode cX7_tellsCount 123 = .ok (.iconst 1, 1) := by decide +kernel
theorem dX7_tellsCount_124 : decode cX7_tellsCount 124 = .ok (.goto 4, 3) := by decide +kernel
theorem dX7_tellsCount_127 : decode cX7_tellsCount 127 = .ok (.iconst 0, 1) := by decide +kernel
theorem dX7_tellsCount_128 : decode cX7_tellsCount 128 = .ok (.ireturn, 1) := by decide +kernel
theorem dX7_tellsCount_129 : decode cX7_tellsCount 129 = .ok (.aload_n 0, 1) := by decide +kernel
theorem dX7_tellsCount_130 : decode cX7_tellsCount 130 = .ok (.getfield 7, 3) := by decide +kernel
theorem dX7_tellsCount_133 : decode cX7_tellsCount 133 = .ok (.iconst 3, 1) := by decide +kernel
theorem dX7_tellsCount_134 : decode cX7_tellsCount 134 = .ok (.iload_n 1, 1) := by decide +kernel
theorem dX7_tellsCount_135 : decode cX7_tellsCount 135 = .ok (.iadd, 1) := by decide +kernel
theorem dX7_tellsCount_136 : decode cX7_tellsCount 136 = .ok (.bipush 7, 2) := by decide +kernel
theorem dX7_tellsCount_138 : decode cX7_tellsCount 138 = .ok (.isub, 1) := by decide +kernel
theorem dX7_tellsCount_139 : decode cX7_tellsCount 139 = .ok (.iaload, 1) := by decide +kernel
theorem dX7_tellsCount_140 : decode cX7_tellsCount 140 = .ok (.ireturn, 1) := by decide +kernel
theorem dX7_tellsCount_141 : decode cX7_tellsCount 141 = .ok (.aload_n 0, 1) := by decide +kernel
theorem dX7_tellsCount_142 : decode cX7_tellsCount 142 = .ok (.getfield 51, 3) := by decide +kernel
theorem dX7_tellsCount_145 : decode cX7_tellsCount 145 = .ok (.ireturn, 1) := by decide +kernel
theorem dX7_tellsCount_146 : decode cX7_tellsCount 146 = .ok (.aload_n 0, 1) := by decide +kernel
theorem dX7_tellsCount_147 : decode cX7_tellsCount 147 = .ok (.getfield 7, 3) := by decide +kernel
theorem dX7_tellsCount_150 : decode cX7_tellsCount 150 = .ok (.iload_n 1, 1) := by decide +kernel
theorem dX7_tellsCount_151 : decode cX7_tellsCount 151 = .ok (.bipush 14, 2) := by decide +kernel
theorem dX7_tellsCount_153 : decode cX7_tellsCount 153 = .ok (.isub, 1) := by decide +kernel
theorem dX7_tellsCount_154 : decode cX7_tellsCount 154 = .ok (.iaload, 1) := by decide +kernel
theorem dX7_tellsCount_155 : decode cX7_tellsCount 155 = .ok (.ireturn, 1) := by decide +kernel
theorem dX7_count_0 : decode cX7_count 0 = .ok (.aload_n 0, 1) := by decide +kernel
theorem dX7_count_1 : decode cX7_count 1 = .ok (.iconst 0, 1) := by decide +kernel
theorem dX7_count_2 : decode cX7_count 2 = .ok (.putfield 28, 3) := by decide +kernel
theorem dX7_count_5 : decode cX7_count 5 = .ok (.iload_n 1, 1) := by decide +kernel
theorem dX7_count_6 : decode cX7_count 6 = .ok (.iconst 0, 1) := by decide +kernel
theorem dX7_count_7 : decode cX7_count 7 = .ok (.bipush 17, 2) := by decide +kernel
theorem dX7_count_9 : decode cX7_count 9 = .ok (.invokestatic 36, 3) := by decide +kernel
theorem dX7_count_12 : decode cX7_count 12 = .ok (.ifCond .eq 11, 3) := by decide +kernel
theorem dX7_count_15 : decode cX7_count 15 = .ok (.aload_n 0, 1) := by decide +kernel
theorem dX7_count_16 : decode cX7_count 16 = .ok (.iload_n 1, 1) := by decide +kernel
theorem dX7_count_17 : decode cX7_count 17 = .ok (.invokevirtual 201, 3) := by decide +kernel
theorem dX7_count_20 : decode cX7_count 20 = .ok (.goto 8, 3) := by decide +kernel
theorem dX7_count_23 : decode cX7_count 23 = .ok (.aload_n 0, 1) := by decide +kernel
theorem dX7_count_24 : decode cX7_count 24 = .ok (.iconst 1, 1) := by decide +kernel
theorem dX7_count_25 : decode cX7_count 25 = .ok (.invokevirtual 84, 3) := by decide +kernel
theorem dX7_count_28 : decode cX7_count 28 = .ok (.ireturn, 1) := by decide +kernel
theorem dX7_whyNot_0 : decode cX7_whyNot 0 = .ok (.aload_n 0, 1) := by decide +kernel
theorem dX7_whyNot_1 : decode cX7_whyNot 1 = .ok (.iconst 0, 1) := by decide +kernel
theorem dX7_whyNot_2 : decode cX7_whyNot 2 = .ok (.putfield 28, 3) := by decide +kernel
theorem dX7_whyNot_5 : decode cX7_whyNot 5 = .ok (.iload_n 1, 1) := by decide +kernel
theorem dX7_whyNot_6 : decode cX7_whyNot 6 = .ok (.invokestatic 81, 3) := by decide +kernel
theorem dX7_whyNot_9 : decode cX7_whyNot 9 = .ok (.ifCond .eq 11, 3) := by decide +kernel
theorem dX7_whyNot_12 : decode cX7_whyNot 12 = .ok (.aload_n 0, 1) := by decide +kernel
theorem dX7_whyNot_13 : decode cX7_whyNot 13 = .ok (.iload_n 1, 1) := by decide +kernel
theorem dX7_whyNot_14 : decode cX7_whyNot 14 = .ok (.invokevirtual 87, 3) := by decide +kernel
theorem dX7_whyNot_17 : decode cX7_whyNot 17 = .ok (.goto 8, 3) := by decide +kernel
theorem dX7_whyNot_20 : decode cX7_whyNot 20 = .ok (.aload_n 0, 1) := by decide +kernel
theorem dX7_whyNot_21 : decode cX7_whyNot 21 = .ok (.iconst 1, 1) := by decide +kernel
theorem dX7_whyNot_22 : decode cX7_whyNot 22 = .ok (.invokevirtual 84, 3) := by decide +kernel
theorem dX7_whyNot_25 : decode cX7_whyNot 25 = .ok (.ireturn, 1) := by decide +kernel
theorem dX7_wouldSet_0 : decode cX7_wouldSet 0 = .ok (.aload_n 0, 1) := by decide +kernel
theorem dX7_wouldSet_1 : decode cX7_wouldSet 1 = .ok (.invokevirtual 204, 3) := by decide +kernel
theorem dX7_wouldSet_4 : decode cX7_wouldSet 4 = .ok (.aload_n 0, 1) := by decide +kernel
theorem dX7_wouldSet_5 : decode cX7_wouldSet 5 = .ok (.invokevirtual 105, 3) := by decide +kernel
theorem dX7_wouldSet_8 : decode cX7_wouldSet 8 = .ok (.istore_n 3, 1) := by decide +kernel
theorem dX7_wouldSet_9 : decode cX7_wouldSet 9 = .ok (.iconst 0, 1) := by decide +kernel
theorem dX7_wouldSet_10 : decode cX7_wouldSet 10 = .ok (.istore 4, 2) := by decide +kernel
theorem dX7_wouldSet_12 : decode cX7_wouldSet 12 = .ok (.iload 4, 2) := by decide +kernel
theorem dX7_wouldSet_14 : decode cX7_wouldSet 14 = .ok (.iload_n 2, 1) := by decide +kernel
theorem dX7_wouldSet_15 : decode cX7_wouldSet 15 = .ok (.if_icmp .ge 23, 3) := by decide +kernel
theorem dX7_wouldSet_18 : decode cX7_wouldSet 18 = .ok (.aload_n 0, 1) := by decide +kernel
theorem dX7_wouldSet_19 : decode cX7_wouldSet 19 = .ok (.iload_n 1, 1) := by decide +kernel
theorem dX7_wouldSet_20 : decode cX7_wouldSet 20 = .ok (.invokevirtual 87, 3) := by decide +kernel
theorem dX7_wouldSet_23 : decode cX7_wouldSet 23 = .ok (.ifCond .ne 15, 3) := by decide +kernel
theorem dX7_wouldSet_26 : decode cX7_wouldSet 26 = .ok (.aload_n 0, 1) := by decide +kernel
theorem dX7_wouldSet_27 : decode cX7_wouldSet 27 = .ok (.iload_n 1, 1) := by decide +kernel
theorem dX7_wouldSet_28 : decode cX7_wouldSet 28 = .ok (.invokevirtual 93, 3) := by decide +kernel
theorem dX7_wouldSet_31 : decode cX7_wouldSet 31 = .ok (.pop, 1) := by decide +kernel
theorem dX7_wouldSet_32 : decode cX7_wouldSet 32 = .ok (.iinc 4 1, 3) := by decide +kernel
theorem dX7_wouldSet_35 : decode cX7_wouldSet 35 = .ok (.goto (-23), 3) := by decide +kernel
theorem dX7_wouldSet_38 : decode cX7_wouldSet 38 = .ok (.aload_n 0, 1) := by decide +kernel
theorem dX7_wouldSet_39 : decode cX7_wouldSet 39 = .ok (.invokevirtual 105, 3) := by decide +kernel
theorem dX7_wouldSet_42 : decode cX7_wouldSet 42 = .ok (.iload_n 3, 1) := by decide +kernel
theorem dX7_wouldSet_43 : decode cX7_wouldSet 43 = .ok (.isub, 1) := by decide +kernel
theorem dX7_wouldSet_44 : decode cX7_wouldSet 44 = .ok (.istore 4, 2) := by decide +kernel
theorem dX7_wouldSet_46 : decode cX7_wouldSet 46 = .ok (.aload_n 0, 1) := by decide +kernel
theorem dX7_wouldSet_47 : decode cX7_wouldSet 47 = .ok (.invokevirtual 207, 3) := by decide +kernel
theorem dX7_wouldSet_50 : decode cX7_wouldSet 50 = .ok (.iload 4, 2) := by decide +kernel
theorem dX7_wouldSet_52 : decode cX7_wouldSet 52 = .ok (.ireturn, 1) := by decide +kernel
theorem dX7_ifSet_0 : decode cX7_ifSet 0 = .ok (.aload_n 0, 1) := by decide +kernel
theorem dX7_ifSet_1 : decode cX7_ifSet 1 = .ok (.iconst 0, 1) := by decide +kernel
theorem dX7_ifSet_2 : decode cX7_ifSet 2 = .ok (.putfield 28, 3) := by decide +kernel
theorem dX7_ifSet_5 : decode cX7_ifSet 5 = .ok (.iload_n 1, 1) := by decide +kernel
theorem dX7_ifSet_6 : decode cX7_ifSet 6 = .ok (.invokestatic 81, 3) := by decide +kernel
theorem dX7_ifSet_9 : decode cX7_ifSet 9 = .ok (.ifCond .ne 9, 3) := by decide +kernel
theorem dX7_ifSet_12 : decode cX7_ifSet 12 = .ok (.aload_n 0, 1) := by decide +kernel
theorem dX7_ifSet_13 : decode cX7_ifSet 13 = .ok (.iconst 1, 1) := by decide +kernel
theorem dX7_ifSet_14 : decode cX7_ifSet 14 = .ok (.invokevirtual 84, 3) := by decide +kernel
theorem dX7_ifSet_17 : decode cX7_ifSet 17 = .ok (.ireturn, 1) := by decide +kernel
theorem dX7_ifSet_18 : decode cX7_ifSet 18 = .ok (.iload_n 2, 1) := by decide +kernel
theorem dX7_ifSet_19 : decode cX7_ifSet 19 = .ok (.iconst 1, 1) := by decide +kernel
theorem dX7_ifSet_20 : decode cX7_ifSet 20 = .ok (.bipush 20, 2) := by decide +kernel
theorem dX7_ifSet_22 : decode cX7_ifSet 22 = .ok (.invokestatic 36, 3) := by decide +kernel
theorem dX7_ifSet_25 : decode cX7_ifSet 25 = .ok (.ifCond .eq 12, 3) := by decide +kernel
theorem dX7_ifSet_28 : decode cX7_ifSet 28 = .ok (.aload_n 0, 1) := by decide +kernel
theorem dX7_ifSet_29 : decode cX7_ifSet 29 = .ok (.iload_n 1, 1) := by decide +kernel
theorem dX7_ifSet_30 : decode cX7_ifSet 30 = .ok (.iload_n 2, 1) := by decide +kernel
theorem dX7_ifSet_31 : decode cX7_ifSet 31 = .ok (.invokevirtual 210, 3) := by decide +kernel
theorem dX7_ifSet_34 : decode cX7_ifSet 34 = .ok (.goto 8, 3) := by decide +kernel
theorem dX7_ifSet_37 : decode cX7_ifSet 37 = .ok (.aload_n 0, 1) := by decide +kernel
theorem dX7_ifSet_38 : decode cX7_ifSet 38 = .ok (.iconst 2, 1) := by decide +kernel
theorem dX7_ifSet_39 : decode cX7_ifSet 39 = .ok (.invokevirtual 84, 3) := by decide +kernel
theorem dX7_ifSet_42 : decode cX7_ifSet 42 = .ok (.ireturn, 1) := by decide +kernel
theorem dX7_sortsAll_0 : decode cX7_sortsAll 0 = .ok (.aload_n 0, 1) := by decide +kernel
theorem dX7_sortsAll_1 : decode cX7_sortsAll 1 = .ok (.invokevirtual 204, 3) := by decide +kernel
theorem dX7_sortsAll_4 : decode cX7_sortsAll 4 = .ok (.aload_n 0, 1) := by decide +kernel
theorem dX7_sortsAll_5 : decode cX7_sortsAll 5 = .ok (.getfield 7, 3) := by decide +kernel
theorem dX7_sortsAll_8 : decode cX7_sortsAll 8 = .ok (.iconst 3, 1) := by decide +kernel
theorem dX7_sortsAll_9 : decode cX7_sortsAll 9 = .ok (.iconst (-1), 1) := by decide +kernel
theorem dX7_sortsAll_10 : decode cX7_sortsAll 10 = .ok (.iastore, 1) := by decide +kernel
theorem dX7_sortsAll_11 : decode cX7_sortsAll 11 = .ok (.aload_n 0, 1) := by decide +kernel
theorem dX7_sortsAll_12 : decode cX7_sortsAll 12 = .ok (.iconst 0, 1) := by decide +kernel
theorem dX7_sortsAll_13 : decode cX7_sortsAll 13 = .ok (.putfield 213, 3) := by decide +kernel
theorem dX7_sortsAll_16 : decode cX7_sortsAll 16 = .ok (.iconst 0, 1) := by decide +kernel
theorem dX7_sortsAll_17 : decode cX7_sortsAll 17 = .ok (.istore_n 1, 1) := by decide +kernel
theorem dX7_sortsAll_18 : decode cX7_sortsAll 18 = .ok (.iconst 0, 1) := by decide +kernel
theorem dX7_sortsAll_19 : decode cX7_sortsAll 19 = .ok (.istore_n 2, 1) := by decide +kernel
theorem dX7_sortsAll_20 : decode cX7_sortsAll 20 = .ok (.iload_n 2, 1) := by decide +kernel
theorem dX7_sortsAll_21 : decode cX7_sortsAll 21 = .ok (.bipush 12, 2) := by decide +kernel
theorem dX7_sortsAll_23 : decode cX7_sortsAll 23 = .ok (.if_icmp .ge 42, 3) := by decide +kernel
theorem dX7_sortsAll_26 : decode cX7_sortsAll 26 = .ok (.iinc 1 1, 3) := by decide +kernel
theorem dX7_sortsAll_29 : decode cX7_sortsAll 29 = .ok (.aload_n 0, 1) := by decide +kernel
theorem dX7_sortsAll_30 : decode cX7_sortsAll 30 = .ok (.invokevirtual 70, 3) := by decide +kernel
theorem dX7_sortsAll_33 : decode cX7_sortsAll 33 = .ok (.istore_n 3, 1) := by decide +kernel
theorem dX7_sortsAll_34 : decode cX7_sortsAll 34 = .ok (.iload_n 3, 1) := by decide +kernel
theorem dX7_sortsAll_35 : decode cX7_sortsAll 35 = .ok (.ifCond .eq 7, 3) := by decide +kernel
theorem dX7_sortsAll_38 : decode cX7_sortsAll 38 = .ok (.iconst 0, 1) := by decide +kernel
theorem dX7_sortsAll_39 : decode cX7_sortsAll 39 = .ok (.goto 6, 3) := by decide +kernel
theorem dX7_sortsAll_42 : decode cX7_sortsAll 42 = .ok (.iload_n 2, 1) := by decide +kernel
theorem dX7_sortsAll_43 : decode cX7_sortsAll 43 = .ok (.iconst 1, 1) := by decide +kernel
theorem dX7_sortsAll_44 : decode cX7_sortsAll 44 = .ok (.iadd, 1) := by decide +kernel
theorem dX7_sortsAll_45 : decode cX7_sortsAll 45 = .ok (.istore_n 2, 1) := by decide +kernel
theorem dX7_sortsAll_46 : decode cX7_sortsAll 46 = .ok (.aload_n 0, 1) := by decide +kernel
theorem dX7_sortsAll_47 : decode cX7_sortsAll 47 = .ok (.iload_n 3, 1) := by decide +kernel
theorem dX7_sortsAll_48 : decode cX7_sortsAll 48 = .ok (.ifCond .eq 7, 3) := by decide +kernel
theorem dX7_sortsAll_51 : decode cX7_sortsAll 51 = .ok (.iload_n 1, 1) := by decide +kernel
theorem dX7_sortsAll_52 : decode cX7_sortsAll 52 = .ok (.goto 7, 3) := by decide +kernel
theorem dX7_sortsAll_55 : decode cX7_sortsAll 55 = .ok (.aload_n 0, 1) := by decide +kernel
theorem dX7_sortsAll_56 : decode cX7_sortsAll 56 = .ok (.getfield 213, 3) := by decide +kernel
theorem dX7_sortsAll_59 : decode cX7_sortsAll 59 = .ok (.putfield 213, 3) := by decide +kernel
theorem dX7_sortsAll_62 : decode cX7_sortsAll 62 = .ok (.goto (-42), 3) := by decide +kernel
theorem dX7_sortsAll_65 : decode cX7_sortsAll 65 = .ok (.aload_n 0, 1) := by decide +kernel
theorem dX7_sortsAll_66 : decode cX7_sortsAll 66 = .ok (.aload_n 0, 1) := by decide +kernel
theorem dX7_sortsAll_67 : decode cX7_sortsAll 67 = .ok (.invokevirtual 117, 3) := by decide +kernel
theorem dX7_sortsAll_70 : decode cX7_sortsAll 70 = .ok (.putfield 216, 3) := by decide +kernel
theorem dX7_sortsAll_73 : decode cX7_sortsAll 73 = .ok (.aload_n 0, 1) := by decide +kernel
theorem dX7_sortsAll_74 : decode cX7_sortsAll 74 = .ok (.invokevirtual 207, 3) := by decide +kernel
theorem dX7_sortsAll_77 : decode cX7_sortsAll 77 = .ok (.return_, 1) := by decide +kernel
theorem dX7_sortedIn_0 : decode cX7_sortedIn 0 = .ok (.aload_n 0, 1) := by decide +kernel
theorem dX7_sortedIn_1 : decode cX7_sortedIn 1 = .ok (.iconst 0, 1) := by decide +kernel
theorem dX7_sortedIn_2 : decode cX7_sortedIn 2 = .ok (.putfield 28, 3) := by decide +kernel
theorem dX7_sortedIn_5 : decode cX7_sortedIn 5 = .ok (.aload_n 0, 1) := by decide +kernel
theorem dX7_sortedIn_6 : decode cX7_sortedIn 6 = .ok (.invokevirtual 219, 3) := by decide +kernel
theorem dX7_sortedIn_9 : decode cX7_sortedIn 9 = .ok (.aload_n 0, 1) := by decide +kernel
theorem dX7_sortedIn_10 : decode cX7_sortedIn 10 = .ok (.getfield 213, 3) := by decide +kernel
theorem dX7_sortedIn_13 : decode cX7_sortedIn 13 = .ok (.ireturn, 1) := by decide +kernel
theorem dX7_wrongThen_0 : decode cX7_wrongThen 0 = .ok (.aload_n 0, 1) := by decide +kernel
theorem dX7_wrongThen_1 : decode cX7_wrongThen 1 = .ok (.iconst 0, 1) := by decide +kernel
theorem dX7_wrongThen_2 : decode cX7_wrongThen 2 = .ok (.putfield 28, 3) := by decide +kernel
theorem dX7_wrongThen_5 : decode cX7_wrongThen 5 = .ok (.aload_n 0, 1) := by decide +kernel
theorem dX7_wrongThen_6 : decode cX7_wrongThen 6 = .ok (.invokevirtual 219, 3) := by decide +kernel
theorem dX7_wrongThen_9 : decode cX7_wrongThen 9 = .ok (.aload_n 0, 1) := by decide +kernel
theorem dX7_wrongThen_10 : decode cX7_wrongThen 10 = .ok (.getfield 216, 3) := by decide +kernel
theorem dX7_wrongThen_13 : decode cX7_wrongThen 13 = .ok (.ireturn, 1) := by decide +kernel
theorem dX7_share_0 : decode cX7_share 0 = .ok (.aload_n 0, 1) := by decide +kernel
theorem dX7_share_1 : decode cX7_share 1 = .ok (.getfield 7, 3) := by decide +kernel
theorem dX7_share_4 : decode cX7_share 4 = .ok (.bipush 12, 2) := by decide +kernel
theorem dX7_share_6 : decode cX7_share 6 = .ok (.iaload, 1) := by decide +kernel
theorem dX7_share_7 : decode cX7_share 7 = .ok (.ifCond .ne 7, 3) := by decide +kernel
theorem dX7_share_10 : decode cX7_share 10 = .ok (.dconst 1, 1) := by decide +kernel
theorem dX7_share_11 : decode cX7_share 11 = .ok (.goto 25, 3) := by decide +kernel
theorem dX7_share_14 : decode cX7_share 14 = .ok (.aload_n 0, 1) := by decide +kernel
theorem dX7_share_15 : decode cX7_share 15 = .ok (.getfield 7, 3) := by decide +kernel
theorem dX7_share_18 : decode cX7_share 18 = .ok (.bipush 12, 2) := by decide +kernel
theorem dX7_share_20 : decode cX7_share 20 = .ok (.iaload, 1) := by decide +kernel
theorem dX7_share_21 : decode cX7_share 21 = .ok (.aload_n 0, 1) := by decide +kernel
theorem dX7_share_22 : decode cX7_share 22 = .ok (.invokevirtual 105, 3) := by decide +kernel
theorem dX7_share_25 : decode cX7_share 25 = .ok (.isub, 1) := by decide +kernel
theorem dX7_share_26 : decode cX7_share 26 = .ok (.i2d, 1) := by decide +kernel
theorem dX7_share_27 : decode cX7_share 27 = .ok (.aload_n 0, 1) := by decide +kernel
theorem dX7_share_28 : decode cX7_share 28 = .ok (.getfield 7, 3) := by decide +kernel
theorem dX7_share_31 : decode cX7_share 31 = .ok (.bipush 12, 2) := by decide +kernel
theorem dX7_share_33 : decode cX7_share 33 = .ok (.iaload, 1) := by decide +kernel
theorem dX7_share_34 : decode cX7_share 34 = .ok (.i2d, 1) := by decide +kernel
theorem dX7_share_35 : decode cX7_share 35 = .ok (.ddiv, 1) := by decide +kernel
theorem dX7_share_36 : decode cX7_share 36 = .ok (.dreturn, 1) := by decide +kernel
theorem dX7_rightShare_0 : decode cX7_rightShare 0 = .ok (.aload_n 0, 1) := by decide +kernel
theorem dX7_rightShare_1 : decode cX7_rightShare 1 = .ok (.iconst 0, 1) := by decide +kernel
theorem dX7_rightShare_2 : decode cX7_rightShare 2 = .ok (.putfield 28, 3) := by decide +kernel
theorem dX7_rightShare_5 : decode cX7_rightShare 5 = .ok (.aload_n 0, 1) := by decide +kernel
theorem dX7_rightShare_6 : decode cX7_rightShare 6 = .ok (.invokevirtual 222, 3) := by decide +kernel
theorem dX7_rightShare_9 : decode cX7_rightShare 9 = .ok (.dreturn, 1) := by decide +kernel
theorem dX7_hashes_0 : decode cX7_hashes 0 = .ok (.aload_n 0, 1) := by decide +kernel
theorem dX7_hashes_1 : decode cX7_hashes 1 = .ok (.ldc2_w 226, 3) := by decide +kernel
theorem dX7_hashes_4 : decode cX7_hashes 4 = .ok (.aload_n 0, 1) := by decide +kernel
theorem dX7_hashes_5 : decode cX7_hashes 5 = .ok (.getfield 228, 3) := by decide +kernel
theorem dX7_hashes_8 : decode cX7_hashes 8 = .ok (.lmul, 1) := by decide +kernel
theorem dX7_hashes_9 : decode cX7_hashes 9 = .ok (.lload_n 1, 1) := by decide +kernel
theorem dX7_hashes_10 : decode cX7_hashes 10 = .ok (.ladd, 1) := by decide +kernel
theorem dX7_hashes_11 : decode cX7_hashes 11 = .ok (.putfield 228, 3) := by decide +kernel
theorem dX7_hashes_14 : decode cX7_hashes 14 = .ok (.return_, 1) := by decide +kernel
theorem dX7_hashesBox_0 : decode cX7_hashesBox 0 = .ok (.iconst 0, 1) := by decide +kernel
theorem dX7_hashesBox_1 : decode cX7_hashesBox 1 = .ok (.istore_n 2, 1) := by decide +kernel
theorem dX7_hashesBox_2 : decode cX7_hashesBox 2 = .ok (.iload_n 2, 1) := by decide +kernel
theorem dX7_hashesBox_3 : decode cX7_hashesBox 3 = .ok (.bipush 7, 2) := by decide +kernel
theorem dX7_hashesBox_5 : decode cX7_hashesBox 5 = .ok (.if_icmp .ge 20, 3) := by decide +kernel
theorem dX7_hashesBox_8 : decode cX7_hashesBox 8 = .ok (.aload_n 0, 1) := by decide +kernel
theorem dX7_hashesBox_9 : decode cX7_hashesBox 9 = .ok (.aload_n 0, 1) := by decide +kernel
theorem dX7_hashesBox_10 : decode cX7_hashesBox 10 = .ok (.iload_n 1, 1) := by decide +kernel
theorem dX7_hashesBox_11 : decode cX7_hashesBox 11 = .ok (.iload_n 2, 1) := by decide +kernel
theorem dX7_hashesBox_12 : decode cX7_hashesBox 12 = .ok (.invokevirtual 192, 3) := by decide +kernel
theorem dX7_hashesBox_15 : decode cX7_hashesBox 15 = .ok (.i2l, 1) := by decide +kernel
theorem dX7_hashesBox_16 : decode cX7_hashesBox 16 = .ok (.invokevirtual 232, 3) := by decide +kernel
theorem dX7_hashesBox_19 : decode cX7_hashesBox 19 = .ok (.iinc 2 1, 3) := by decide +kernel
theorem dX7_hashesBox_22 : decode cX7_hashesBox 22 = .ok (.goto (-20), 3) := by decide +kernel
theorem dX7_hashesBox_25 : decode cX7_hashesBox 25 = .ok (.aload_n 0, 1) := by decide +kernel
theorem dX7_hashesBox_26 : decode cX7_hashesBox 26 = .ok (.aload_n 0, 1) := by decide +kernel
theorem dX7_hashesBox_27 : decode cX7_hashesBox 27 = .ok (.iload_n 1, 1) := by decide +kernel
theorem dX7_hashesBox_28 : decode cX7_hashesBox 28 = .ok (.invokevirtual 87, 3) := by decide +kernel
theorem dX7_hashesBox_31 : decode cX7_hashesBox 31 = .ok (.i2l, 1) := by decide +kernel
theorem dX7_hashesBox_32 : decode cX7_hashesBox 32 = .ok (.invokevirtual 232, 3) := by decide +kernel
theorem dX7_hashesBox_35 : decode cX7_hashesBox 35 = .ok (.aload_n 0, 1) := by decide +kernel
theorem dX7_hashesBox_36 : decode cX7_hashesBox 36 = .ok (.aload_n 0, 1) := by decide +kernel
theorem dX7_hashesBox_37 : decode cX7_hashesBox 37 = .ok (.iload_n 1, 1) := by decide +kernel
theorem dX7_hashesBox_38 : decode cX7_hashesBox 38 = .ok (.iconst 3, 1) := by decide +kernel
theorem dX7_hashesBox_39 : decode cX7_hashesBox 39 = .ok (.invokevirtual 210, 3) := by decide +kernel
theorem dX7_hashesBox_42 : decode cX7_hashesBox 42 = .ok (.i2l, 1) := by decide +kernel
theorem dX7_hashesBox_43 : decode cX7_hashesBox 43 = .ok (.invokevirtual 232, 3) := by decide +kernel
theorem dX7_hashesBox_46 : decode cX7_hashesBox 46 = .ok (.aload_n 0, 1) := by decide +kernel
theorem dX7_hashesBox_47 : decode cX7_hashesBox 47 = .ok (.iload_n 1, 1) := by decide +kernel
theorem dX7_hashesBox_48 : decode cX7_hashesBox 48 = .ok (.invokevirtual 40, 3) := by decide +kernel
theorem dX7_hashesBox_51 : decode cX7_hashesBox 51 = .ok (.iconst 1, 1) := by decide +kernel
theorem dX7_hashesBox_52 : decode cX7_hashesBox 52 = .ok (.isub, 1) := by decide +kernel
theorem dX7_hashesBox_53 : decode cX7_hashesBox 53 = .ok (.istore_n 2, 1) := by decide +kernel
theorem dX7_hashesBox_54 : decode cX7_hashesBox 54 = .ok (.iload_n 2, 1) := by decide +kernel
theorem dX7_hashesBox_55 : decode cX7_hashesBox 55 = .ok (.ifCond .lt 20, 3) := by decide +kernel
theorem dX7_hashesBox_58 : decode cX7_hashesBox 58 = .ok (.aload_n 0, 1) := by decide +kernel
theorem dX7_hashesBox_59 : decode cX7_hashesBox 59 = .ok (.aload_n 0, 1) := by decide +kernel
theorem dX7_hashesBox_60 : decode cX7_hashesBox 60 = .ok (.iload_n 1, 1) := by decide +kernel
theorem dX7_hashesBox_61 : decode cX7_hashesBox 61 = .ok (.iload_n 2, 1) := by decide +kernel
theorem dX7_hashesBox_62 : decode cX7_hashesBox 62 = .ok (.invokevirtual 44, 3) := by decide +kernel
theorem dX7_hashesBox_65 : decode cX7_hashesBox 65 = .ok (.i2l, 1) := by decide +kernel
theorem dX7_hashesBox_66 : decode cX7_hashesBox 66 = .ok (.invokevirtual 232, 3) := by decide +kernel
theorem dX7_hashesBox_69 : decode cX7_hashesBox 69 = .ok (.iinc 2 (-1), 3) := by decide +kernel
theorem dX7_hashesBox_72 : decode cX7_hashesBox 72 = .ok (.goto (-18), 3) := by decide +kernel
theorem dX7_hashesBox_75 : decode cX7_hashesBox 75 = .ok (.return_, 1) := by decide +kernel
theorem dX7_hashesLine_0 : decode cX7_hashesLine 0 = .ok (.iconst 0, 1) := by decide +kernel
theorem dX7_hashesLine_1 : decode cX7_hashesLine 1 = .ok (.istore_n 1, 1) := by decide +kernel
theorem dX7_hashesLine_2 : decode cX7_hashesLine 2 = .ok (.iload_n 1, 1) := by decide +kernel
theorem dX7_hashesLine_3 : decode cX7_hashesLine 3 = .ok (.iconst 4, 1) := by decide +kernel
theorem dX7_hashesLine_4 : decode cX7_hashesLine 4 = .ok (.aload_n 0, 1) := by decide +kernel
theorem dX7_hashesLine_5 : decode cX7_hashesLine 5 = .ok (.getfield 7, 3) := by decide +kernel
theorem dX7_hashesLine_8 : decode cX7_hashesLine 8 = .ok (.bipush 12, 2) := by decide +kernel
theorem dX7_hashesLine_10 : decode cX7_hashesLine 10 = .ok (.iaload, 1) := by decide +kernel
theorem dX7_hashesLine_11 : decode cX7_hashesLine 11 = .ok (.imul, 1) := by decide +kernel
theorem dX7_hashesLine_12 : decode cX7_hashesLine 12 = .ok (.if_icmp .ge 24, 3) := by decide +kernel
theorem dX7_hashesLine_15 : decode cX7_hashesLine 15 = .ok (.aload_n 0, 1) := by decide +kernel
theorem dX7_hashesLine_16 : decode cX7_hashesLine 16 = .ok (.aload_n 0, 1) := by decide +kernel
theorem dX7_hashesLine_17 : decode cX7_hashesLine 17 = .ok (.iload_n 1, 1) := by decide +kernel
theorem dX7_hashesLine_18 : decode cX7_hashesLine 18 = .ok (.iconst 4, 1) := by decide +kernel
theorem dX7_hashesLine_19 : decode cX7_hashesLine 19 = .ok (.idiv, 1) := by decide +kernel
theorem dX7_hashesLine_20 : decode cX7_hashesLine 20 = .ok (.iload_n 1, 1) := by decide +kernel
theorem dX7_hashesLine_21 : decode cX7_hashesLine 21 = .ok (.iconst 4, 1) := by decide +kernel
theorem dX7_hashesLine_22 : decode cX7_hashesLine 22 = .ok (.irem, 1) := by decide +kernel
theorem dX7_hashesLine_23 : decode cX7_hashesLine 23 = .ok (.invokevirtual 195, 3) := by decide +kernel
theorem dX7_hashesLine_26 : decode cX7_hashesLine 26 = .ok (.i2l, 1) := by decide +kernel
theorem dX7_hashesLine_27 : decode cX7_hashesLine 27 = .ok (.invokevirtual 232, 3) := by decide +kernel
theorem dX7_hashesLine_30 : decode cX7_hashesLine 30 = .ok (.iinc 1 1, 3) := by decide +kernel
theorem dX7_hashesLine_33 : decode cX7_hashesLine 33 = .ok (.goto (-31), 3) := by decide +kernel
theorem dX7_hashesLine_36 : decode cX7_hashesLine 36 = .ok (.iconst 0, 1) := by decide +kernel
theorem dX7_hashesLine_37 : decode cX7_hashesLine 37 = .ok (.istore_n 1, 1) := by decide +kernel
theorem dX7_hashesLine_38 : decode cX7_hashesLine 38 = .ok (.iload_n 1, 1) := by decide +kernel
theorem dX7_hashesLine_39 : decode cX7_hashesLine 39 = .ok (.aload_n 0, 1) := by decide +kernel
theorem dX7_hashesLine_40 : decode cX7_hashesLine 40 = .ok (.getfield 7, 3) := by decide +kernel
theorem dX7_hashesLine_43 : decode cX7_hashesLine 43 = .ok (.bipush 12, 2) := by decide +kernel
theorem dX7_hashesLine_45 : decode cX7_hashesLine 45 = .ok (.iaload, 1) := by decide +kernel
theorem dX7_hashesLine_46 : decode cX7_hashesLine 46 = .ok (.aload_n 0, 1) := by decide +kernel
theorem dX7_hashesLine_47 : decode cX7_hashesLine 47 = .ok (.invokevirtual 105, 3) := by decide +kernel
theorem dX7_hashesLine_50 : decode cX7_hashesLine 50 = .ok (.iadd, 1) := by decide +kernel
theorem dX7_hashesLine_51 : decode cX7_hashesLine 51 = .ok (.if_icmp .ge 19, 3) := by decide +kernel
theorem dX7_hashesLine_54 : decode cX7_hashesLine 54 = .ok (.aload_n 0, 1) := by decide +kernel
theorem dX7_hashesLine_55 : decode cX7_hashesLine 55 = .ok (.aload_n 0, 1) := by decide +kernel
theorem dX7_hashesLine_56 : decode cX7_hashesLine 56 = .ok (.iload_n 1, 1) := by decide +kernel
theorem dX7_hashesLine_57 : decode cX7_hashesLine 57 = .ok (.invokevirtual 183, 3) := by decide +kernel
theorem dX7_hashesLine_60 : decode cX7_hashesLine 60 = .ok (.i2l, 1) := by decide +kernel
theorem dX7_hashesLine_61 : decode cX7_hashesLine 61 = .ok (.invokevirtual 232, 3) := by decide +kernel
theorem dX7_hashesLine_64 : decode cX7_hashesLine 64 = .ok (.iinc 1 1, 3) := by decide +kernel
theorem dX7_hashesLine_67 : decode cX7_hashesLine 67 = .ok (.goto (-29), 3) := by decide +kernel
theorem dX7_hashesLine_70 : decode cX7_hashesLine 70 = .ok (.return_, 1) := by decide +kernel
theorem dX7_digest_0 : decode cX7_digest 0 = .ok (.aload_n 0, 1) := by decide +kernel
theorem dX7_digest_1 : decode cX7_digest 1 = .ok (.iconst 0, 1) := by decide +kernel
theorem dX7_digest_2 : decode cX7_digest 2 = .ok (.putfield 28, 3) := by decide +kernel
theorem dX7_digest_5 : decode cX7_digest 5 = .ok (.aload_n 0, 1) := by decide +kernel
theorem dX7_digest_6 : decode cX7_digest 6 = .ok (.ldc2_w 236, 3) := by decide +kernel
theorem dX7_digest_9 : decode cX7_digest 9 = .ok (.putfield 228, 3) := by decide +kernel
theorem dX7_digest_12 : decode cX7_digest 12 = .ok (.iconst 0, 1) := by decide +kernel
theorem dX7_digest_13 : decode cX7_digest 13 = .ok (.istore_n 1, 1) := by decide +kernel
theorem dX7_digest_14 : decode cX7_digest 14 = .ok (.iload_n 1, 1) := by decide +kernel
theorem dX7_digest_15 : decode cX7_digest 15 = .ok (.bipush 18, 2) := by decide +kernel
theorem dX7_digest_17 : decode cX7_digest 17 = .ok (.if_icmp .ge 19, 3) := by decide +kernel
theorem dX7_digest_20 : decode cX7_digest 20 = .ok (.aload_n 0, 1) := by decide +kernel
theorem dX7_digest_21 : decode cX7_digest 21 = .ok (.aload_n 0, 1) := by decide +kernel
theorem dX7_digest_22 : decode cX7_digest 22 = .ok (.iload_n 1, 1) := by decide +kernel
theorem dX7_digest_23 : decode cX7_digest 23 = .ok (.invokevirtual 201, 3) := by decide +kernel
theorem dX7_digest_26 : decode cX7_digest 26 = .ok (.i2l, 1) := by decide +kernel
theorem dX7_digest_27 : decode cX7_digest 27 = .ok (.invokevirtual 232, 3) := by decide +kernel
theorem dX7_digest_30 : decode cX7_digest 30 = .ok (.iinc 1 1, 3) := by decide +kernel
theorem dX7_digest_33 : decode cX7_digest 33 = .ok (.goto (-19), 3) := by decide +kernel
theorem dX7_digest_36 : decode cX7_digest 36 = .ok (.iconst 0, 1) := by decide +kernel
theorem dX7_digest_37 : decode cX7_digest 37 = .ok (.istore_n 1, 1) := by decide +kernel
theorem dX7_digest_38 : decode cX7_digest 38 = .ok (.iload_n 1, 1) := by decide +kernel
theorem dX7_digest_39 : decode cX7_digest 39 = .ok (.bipush 12, 2) := by decide +kernel
theorem dX7_digest_41 : decode cX7_digest 41 = .ok (.if_icmp .ge 14, 3) := by decide +kernel
theorem dX7_digest_44 : decode cX7_digest 44 = .ok (.aload_n 0, 1) := by decide +kernel
theorem dX7_digest_45 : decode cX7_digest 45 = .ok (.iload_n 1, 1) := by decide +kernel
theorem dX7_digest_46 : decode cX7_digest 46 = .ok (.invokevirtual 238, 3) := by decide +kernel
theorem dX7_digest_49 : decode cX7_digest 49 = .ok (.iinc 1 1, 3) := by decide +kernel
theorem dX7_digest_52 : decode cX7_digest 52 = .ok (.goto (-14), 3) := by decide +kernel
theorem dX7_digest_55 : decode cX7_digest 55 = .ok (.aload_n 0, 1) := by decide +kernel
theorem dX7_digest_56 : decode cX7_digest 56 = .ok (.invokevirtual 241, 3) := by decide +kernel
theorem dX7_digest_59 : decode cX7_digest 59 = .ok (.aload_n 0, 1) := by decide +kernel
theorem dX7_digest_60 : decode cX7_digest 60 = .ok (.aload_n 0, 1) := by decide +kernel
theorem dX7_digest_61 : decode cX7_digest 61 = .ok (.getfield 7, 3) := by decide +kernel
theorem dX7_digest_64 : decode cX7_digest 64 = .ok (.bipush 10, 2) := by decide +kernel
theorem dX7_digest_66 : decode cX7_digest 66 = .ok (.iaload, 1) := by decide +kernel
theorem dX7_digest_67 : decode cX7_digest 67 = .ok (.i2l, 1) := by decide +kernel
theorem dX7_digest_68 : decode cX7_digest 68 = .ok (.invokevirtual 232, 3) := by decide +kernel
theorem dX7_digest_71 : decode cX7_digest 71 = .ok (.aload_n 0, 1) := by decide +kernel
theorem dX7_digest_72 : decode cX7_digest 72 = .ok (.aload_n 0, 1) := by decide +kernel
theorem dX7_digest_73 : decode cX7_digest 73 = .ok (.getfield 7, 3) := by decide +kernel
theorem dX7_digest_76 : decode cX7_digest 76 = .ok (.bipush 11, 2) := by decide +kernel
theorem dX7_digest_78 : decode cX7_digest 78 = .ok (.iaload, 1) := by decide +kernel
theorem dX7_digest_79 : decode cX7_digest 79 = .ok (.i2l, 1) := by decide +kernel
theorem dX7_digest_80 : decode cX7_digest 80 = .ok (.invokevirtual 232, 3) := by decide +kernel
theorem dX7_digest_83 : decode cX7_digest 83 = .ok (.aload_n 0, 1) := by decide +kernel
theorem dX7_digest_84 : decode cX7_digest 84 = .ok (.invokevirtual 219, 3) := by decide +kernel
theorem dX7_digest_87 : decode cX7_digest 87 = .ok (.aload_n 0, 1) := by decide +kernel
theorem dX7_digest_88 : decode cX7_digest 88 = .ok (.aload_n 0, 1) := by decide +kernel
theorem dX7_digest_89 : decode cX7_digest 89 = .ok (.getfield 213, 3) := by decide +kernel
theorem dX7_digest_92 : decode cX7_digest 92 = .ok (.i2l, 1) := by decide +kernel
theorem dX7_digest_93 : decode cX7_digest 93 = .ok (.invokevirtual 232, 3) := by decide +kernel
theorem dX7_digest_96 : decode cX7_digest 96 = .ok (.aload_n 0, 1) := by decide +kernel
theorem dX7_digest_97 : decode cX7_digest 97 = .ok (.aload_n 0, 1) := by decide +kernel
theorem dX7_digest_98 : decode cX7_digest 98 = .ok (.getfield 216, 3) := by decide +kernel
theorem dX7_digest_101 : decode cX7_digest 101 = .ok (.i2l, 1) := by decide +kernel
theorem dX7_digest_102 : decode cX7_digest 102 = .ok (.invokevirtual 232, 3) := by decide +kernel
theorem dX7_digest_105 : decode cX7_digest 105 = .ok (.aload_n 0, 1) := by decide +kernel
theorem dX7_digest_106 : decode cX7_digest 106 = .ok (.aload_n 0, 1) := by decide +kernel
theorem dX7_digest_107 : decode cX7_digest 107 = .ok (.invokevirtual 222, 3) := by decide +kernel
theorem dX7_digest_110 : decode cX7_digest 110 = .ok (.invokestatic 244, 3) := by decide +kernel
theorem dX7_digest_113 : decode cX7_digest 113 = .ok (.invokevirtual 232, 3) := by decide +kernel
theorem dX7_digest_116 : decode cX7_digest 116 = .ok (.aload_n 0, 1) := by decide +kernel
theorem dX7_digest_117 : decode cX7_digest 117 = .ok (.aload_n 0, 1) := by decide +kernel
theorem dX7_digest_118 : decode cX7_digest 118 = .ok (.getfield 129, 3) := by decide +kernel
theorem dX7_digest_121 : decode cX7_digest 121 = .ok (.i2l, 1) := by decide +kernel
theorem dX7_digest_122 : decode cX7_digest 122 = .ok (.invokevirtual 232, 3) := by decide +kernel
theorem dX7_digest_125 : decode cX7_digest 125 = .ok (.iconst 0, 1) := by decide +kernel
theorem dX7_digest_126 : decode cX7_digest 126 = .ok (.istore_n 1, 1) := by decide +kernel
theorem dX7_digest_127 : decode cX7_digest 127 = .ok (.iload_n 1, 1) := by decide +kernel
theorem dX7_digest_128 : decode cX7_digest 128 = .ok (.aload_n 0, 1) := by decide +kernel
theorem dX7_digest_129 : decode cX7_digest 129 = .ok (.getfield 129, 3) := by decide +kernel
theorem dX7_digest_132 : decode cX7_digest 132 = .ok (.if_icmp .ge 20, 3) := by decide +kernel
theorem dX7_digest_135 : decode cX7_digest 135 = .ok (.aload_n 0, 1) := by decide +kernel
theorem dX7_digest_136 : decode cX7_digest 136 = .ok (.aload_n 0, 1) := by decide +kernel
theorem dX7_digest_137 : decode cX7_digest 137 = .ok (.getfield 22, 3) := by decide +kernel
theorem dX7_digest_140 : decode cX7_digest 140 = .ok (.iload_n 1, 1) := by decide +kernel
theorem dX7_digest_141 : decode cX7_digest 141 = .ok (.iaload, 1) := by decide +kernel
theorem dX7_digest_142 : decode cX7_digest 142 = .ok (.i2l, 1) := by decide +kernel
theorem dX7_digest_143 : decode cX7_digest 143 = .ok (.invokevirtual 232, 3) := by decide +kernel
theorem dX7_digest_146 : decode cX7_digest 146 = .ok (.iinc 1 1, 3) := by decide +kernel
theorem dX7_digest_149 : decode cX7_digest 149 = .ok (.goto (-22), 3) := by decide +kernel
theorem dX7_digest_152 : decode cX7_digest 152 = .ok (.aload_n 0, 1) := by decide +kernel
theorem dX7_digest_153 : decode cX7_digest 153 = .ok (.getfield 228, 3) := by decide +kernel
theorem dX7_digest_156 : decode cX7_digest 156 = .ok (.lreturn, 1) := by decide +kernel
