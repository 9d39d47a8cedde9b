theorem dJxe99ae_isNaN_b9ae7_0 : decode cJxe99ae_isNaN_b9ae7 0 = .ok (.dload_n 0, 1) := by decide +kernel
theorem dJxe99ae_isNaN_b9ae7_1 : decode cJxe99ae_isNaN_b9ae7 1 = .ok (.dload_n 0, 1) := by decide +kernel
theorem dJxe99ae_isNaN_b9ae7_2 : decode cJxe99ae_isNaN_b9ae7 2 = .ok (.dcmp .l, 1) := by decide +kernel
theorem dJxe99ae_isNaN_b9ae7_3 : decode cJxe99ae_isNaN_b9ae7 3 = .ok (.ifCond .eq 7, 3) := by decide +kernel
theorem dJxe99ae_isNaN_b9ae7_6 : decode cJxe99ae_isNaN_b9ae7 6 = .ok (.iconst 1, 1) := by decide +kernel
theorem dJxe99ae_isNaN_b9ae7_7 : decode cJxe99ae_isNaN_b9ae7 7 = .ok (.goto 4, 3) := by decide +kernel
theorem dJxe99ae_isNaN_b9ae7_10 : decode cJxe99ae_isNaN_b9ae7 10 = .ok (.iconst 0, 1) := by decide +kernel
theorem dJxe99ae_isNaN_b9ae7_11 : decode cJxe99ae_isNaN_b9ae7 11 = .ok (.ireturn, 1) := by decide +kernel
theorem dJxe99ae_doubleToLongBits_ccdee_0 : decode cJxe99ae_doubleToLongBits_ccdee 0 = .ok (.dload_n 0, 1) := by decide +kernel
theorem dJxe99ae_doubleToLongBits_ccdee_1 : decode cJxe99ae_doubleToLongBits_ccdee 1 = .ok (.invokestatic 122, 3) := by decide +kernel
theorem dJxe99ae_doubleToLongBits_ccdee_4 : decode cJxe99ae_doubleToLongBits_ccdee 4 = .ok (.ifCond .ne 8, 3) := by decide +kernel
theorem dJxe99ae_doubleToLongBits_ccdee_7 : decode cJxe99ae_doubleToLongBits_ccdee 7 = .ok (.dload_n 0, 1) := by decide +kernel
theorem dJxe99ae_doubleToLongBits_ccdee_8 : decode cJxe99ae_doubleToLongBits_ccdee 8 = .ok (.invokestatic 134, 3) := by decide +kernel
theorem dJxe99ae_doubleToLongBits_ccdee_11 : decode cJxe99ae_doubleToLongBits_ccdee 11 = .ok (.lreturn, 1) := by decide +kernel
theorem dJxe99ae_doubleToLongBits_ccdee_12 : decode cJxe99ae_doubleToLongBits_ccdee 12 = .ok (.ldc2_w 137, 3) := by decide +kernel
theorem dJxe99ae_doubleToLongBits_ccdee_15 : decode cJxe99ae_doubleToLongBits_ccdee 15 = .ok (.lreturn, 1) := by decide +kernel
set_option maxRecDepth 20000 in
theorem ggJxe99ae_doubleToLongBits_ccdee_Jxe99ae_isNaN_b9ae7 : GoodIn wsJxe99ae_doubleToLongBits_ccdee wsJxe99ae_isNaN_b9ae7 := goodIn_r _ [9] (by decide +kernel) (by decide +kernel)
set_option maxRecDepth 20000 in
theorem gJxe99ae_doubleToLongBits_ccdee_Jxe99ae_isNaN_b9ae7 : GoodIn wsJxe99ae_doubleToLongBits_ccdee (va_wsS RJxe99ae 122 yJxe99ae_isNaN_b9ae7 wsJxe99ae_isNaN_b9ae7) := goodIn_app (goodIn_of _ (by decide +kernel)) ggJxe99ae_doubleToLongBits_ccdee_Jxe99ae_isNaN_b9ae7
theorem dJ9_max_7cf53_0 : decode cJ9_max_7cf53 0 = .ok (.iload_n 0, 1) := by decide +kernel
theorem dJ9_max_7cf53_1 : decode cJ9_max_7cf53 1 = .ok (.iload_n 1, 1) := by decide +kernel
theorem dJ9_max_7cf53_2 : decode cJ9_max_7cf53 2 = .ok (.if_icmp .lt 7, 3) := by decide +kernel
theorem dJ9_max_7cf53_5 : decode cJ9_max_7cf53 5 = .ok (.iload_n 0, 1) := by decide +kernel
theorem dJ9_max_7cf53_6 : decode cJ9_max_7cf53 6 = .ok (.goto 4, 3) := by decide +kernel
theorem dJ9_max_7cf53_9 : decode cJ9_max_7cf53 9 = .ok (.iload_n 1, 1) := by decide +kernel
theorem dJ9_max_7cf53_10 : decode cJ9_max_7cf53 10 = .ok (.ireturn, 1) := by decide +kernel
set_option maxRecDepth 20000 in
theorem ggJ0_length_8abf5_J0_coder_7d493 : GoodIn wsJ0_length_8abf5 wsJ0_coder_7d493 := goodIn_r _ [6, 7, 8] (by decide +kernel) (by decide +kernel)
set_option maxRecDepth 20000 in
theorem gJ0_length_8abf5_J0_coder_7d493 : GoodIn wsJ0_length_8abf5 (wsV RJ0 335 RJ0 yJ0_coder_7d493 wsJ0_coder_7d493) := goodIn_app (goodIn_of _ (by decide +kernel)) ggJ0_length_8abf5_J0_coder_7d493
theorem dJ0_length_8abf5_0 : decode cJ0_length_8abf5 0 = .ok (.aload_n 0, 1) := by decide +kernel
theorem dJ0_length_8abf5_1 : decode cJ0_length_8abf5 1 = .ok (.getfield 9, 3) := by decide +kernel
theorem dJ0_length_8abf5_4 : decode cJ0_length_8abf5 4 = .ok (.arraylength, 1) := by decide +kernel
theorem dJ0_length_8abf5_5 : decode cJ0_length_8abf5 5 = .ok (.aload_n 0, 1) := by decide +kernel
theorem dJ0_length_8abf5_6 : decode cJ0_length_8abf5 6 = .ok (.invokevirtual 335, 3) := by decide +kernel
theorem dJ0_length_8abf5_9 : decode cJ0_length_8abf5 9 = .ok (.ishr, 1) := by decide +kernel
theorem dJ0_length_8abf5_10 : decode cJ0_length_8abf5 10 = .ok (.ireturn, 1) := by decide +kernel
set_option maxRecDepth 20000 in
theorem ggJ0_charAt_5068e_J0_isLatin1_aae02 : GoodIn wsJ0_charAt_5068e wsJ0_isLatin1_aae02 := goodIn_r _ [6, 7, 8] (by decide +kernel) (by decide +kernel)
set_option maxRecDepth 20000 in
theorem ggJ0_charAt_5068e_J1_charAt_3b067 : GoodIn wsJ0_charAt_5068e wsJ1_charAt_3b067 := goodIn_r _ [12, 13, 14, 5, 15, 16, 17, 18, 19, 20] (by decide +kernel) (by decide +kernel)
set_option maxRecDepth 20000 in
theorem ggJ0_charAt_5068e_J2_charAt_3b067 : GoodIn wsJ0_charAt_5068e wsJ2_charAt_3b067 := goodIn_r _ [24, 25, 26, 23, 27, 28, 29, 30, 31, 14, 5, 15, 16, 17, 18, 19, 20, 32, 33, 34, 35, 36, 37] (by decide +kernel) (by decide +kernel)
set_option maxRecDepth 20000 in
theorem gJ0_charAt_5068e_J0_isLatin1_aae02 : GoodIn wsJ0_charAt_5068e (wsV RJ0 492 RJ0 yJ0_isLatin1_aae02 wsJ0_isLatin1_aae02) := goodIn_app (goodIn_of _ (by decide +kernel)) ggJ0_charAt_5068e_J0_isLatin1_aae02
set_option maxRecDepth 20000 in
theorem gJ0_charAt_5068e_J1_charAt_3b067 : GoodIn wsJ0_charAt_5068e (va_wsS RJ0 495 yJ1_charAt_3b067 wsJ1_charAt_3b067) := goodIn_app (goodIn_of _ (by decide +kernel)) ggJ0_charAt_5068e_J1_charAt_3b067
set_option maxRecDepth 20000 in
theorem gJ0_charAt_5068e_J2_charAt_3b067 : GoodIn wsJ0_charAt_5068e (va_wsS RJ0 498 yJ2_charAt_3b067 wsJ2_charAt_3b067) := goodIn_app (goodIn_of _ (by decide +kernel)) ggJ0_charAt_5068e_J2_charAt_3b067
theorem dJ0_charAt_5068e_0 : decode cJ0_charAt_5068e 0 = .ok (.aload_n 0, 1) := by decide +kernel
theorem dJ0_charAt_5068e_1 : decode cJ0_charAt_5068e 1 = .ok (.invokevirtual 492, 3) := by decide +kernel
theorem dJ0_charAt_5068e_4 : decode cJ0_charAt_5068e 4 = .ok (.ifCond .eq 12, 3) := by decide +kernel
theorem dJ0_charAt_5068e_7 : decode cJ0_charAt_5068e 7 = .ok (.aload_n 0, 1) := by decide +kernel
theorem dJ0_charAt_5068e_8 : decode cJ0_charAt_5068e 8 = .ok (.getfield 9, 3) := by decide +kernel
theorem dJ0_charAt_5068e_11 : decode cJ0_charAt_5068e 11 = .ok (.iload_n 1, 1) := by decide +kernel
theorem dJ0_charAt_5068e_12 : decode cJ0_charAt_5068e 12 = .ok (.invokestatic 495, 3) := by decide +kernel
theorem dJ0_charAt_5068e_15 : decode cJ0_charAt_5068e 15 = .ok (.ireturn, 1) := by decide +kernel
theorem dJ0_charAt_5068e_16 : decode cJ0_charAt_5068e 16 = .ok (.aload_n 0, 1) := by decide +kernel
theorem dJ0_charAt_5068e_17 : decode cJ0_charAt_5068e 17 = .ok (.getfield 9, 3) := by decide +kernel
theorem dJ0_charAt_5068e_20 : decode cJ0_charAt_5068e 20 = .ok (.iload_n 1, 1) := by decide +kernel
theorem dJ0_charAt_5068e_21 : decode cJ0_charAt_5068e 21 = .ok (.invokestatic 498, 3) := by decide +kernel
theorem dJ0_charAt_5068e_24 : decode cJ0_charAt_5068e 24 = .ok (.ireturn, 1) := by decide +kernel
theorem dJ0_coder_7d493_0 : decode cJ0_coder_7d493 0 = .ok (.getstatic 38, 3) := by decide +kernel
theorem dJ0_coder_7d493_3 : decode cJ0_coder_7d493 3 = .ok (.ifCond .eq 10, 3) := by decide +kernel
theorem dJ0_coder_7d493_6 : decode cJ0_coder_7d493 6 = .ok (.aload_n 0, 1) := by decide +kernel
theorem dJ0_coder_7d493_7 : decode cJ0_coder_7d493 7 = .ok (.getfield 15, 3) := by decide +kernel
theorem dJ0_coder_7d493_10 : decode cJ0_coder_7d493 10 = .ok (.goto 4, 3) := by decide +kernel
theorem dJ0_coder_7d493_13 : decode cJ0_coder_7d493 13 = .ok (.iconst 1, 1) := by decide +kernel
theorem dJ0_coder_7d493_14 : decode cJ0_coder_7d493 14 = .ok (.ireturn, 1) := by decide +kernel
theorem dJ0_isLatin1_aae02_0 : decode cJ0_isLatin1_aae02 0 = .ok (.getstatic 38, 3) := by decide +kernel
theorem dJ0_isLatin1_aae02_3 : decode cJ0_isLatin1_aae02 3 = .ok (.ifCond .eq 14, 3) := by decide +kernel
theorem dJ0_isLatin1_aae02_6 : decode cJ0_isLatin1_aae02 6 = .ok (.aload_n 0, 1) := by decide +kernel
theorem dJ0_isLatin1_aae02_7 : decode cJ0_isLatin1_aae02 7 = .ok (.getfield 15, 3) := by decide +kernel
theorem dJ0_isLatin1_aae02_10 : decode cJ0_isLatin1_aae02 10 = .ok (.ifCond .ne 7, 3) := by decide +kernel
theorem dJ0_isLatin1_aae02_13 : decode cJ0_isLatin1_aae02 13 = .ok (.iconst 1, 1) := by decide +kernel
theorem dJ0_isLatin1_aae02_14 : decode cJ0_isLatin1_aae02 14 = .ok (.goto 4, 3) := by decide +kernel
theorem dJ0_isLatin1_aae02_17 : decode cJ0_isLatin1_aae02 17 = .ok (.iconst 0, 1) := by decide +kernel
theorem dJ0_isLatin1_aae02_18 : decode cJ0_isLatin1_aae02 18 = .ok (.ireturn, 1) := by decide +kernel
set_option maxRecDepth 20000 in
theorem ggJ0_checkIndex_df160_J3_checkIndex_8e157 : GoodIn wsJ0_checkIndex_df160 wsJ3_checkIndex_8e157 := goodIn_r _ [5] (by decide +kernel) (by decide +kernel)
set_option maxRecDepth 20000 in
theorem gJ0_checkIndex_df160_J3_checkIndex_8e157 : GoodIn wsJ0_checkIndex_df160 (va_wsS RJ0 1059 yJ3_checkIndex_8e157 wsJ3_checkIndex_8e157) := goodIn_app (goodIn_of _ (by decide +kernel)) ggJ0_checkIndex_df160_J3_checkIndex_8e157
theorem dJ0_checkIndex_df160_0 : decode cJ0_checkIndex_df160 0 = .ok (.iload_n 0, 1) := by decide +kernel
theorem dJ0_checkIndex_df160_1 : decode cJ0_checkIndex_df160 1 = .ok (.iload_n 1, 1) := by decide +kernel
theorem dJ0_checkIndex_df160_2 : decode cJ0_checkIndex_df160 2 = .ok (.getstatic 1053, 3) := by decide +kernel
theorem dJ0_checkIndex_df160_5 : decode cJ0_checkIndex_df160 5 = .ok (.invokestatic 1059, 3) := by decide +kernel
theorem dJ0_checkIndex_df160_8 : decode cJ0_checkIndex_df160 8 = .ok (.pop, 1) := by decide +kernel
theorem dJ0_checkIndex_df160_9 : decode cJ0_checkIndex_df160 9 = .ok (.return_, 1) := by decide +kernel
set_option maxRecDepth 20000 in
theorem ggJ1_charAt_3b067_J0_checkIndex_df160 : GoodIn wsJ1_charAt_3b067 wsJ0_checkIndex_df160 := goodIn_r _ [4, 5, 6, 7, 8, 9] (by decide +kernel) (by decide +kernel)
set_option maxRecDepth 20000 in
theorem gJ1_charAt_3b067_J0_checkIndex_df160 : GoodIn wsJ1_charAt_3b067 (va_wsS RJ1 9 yJ0_checkIndex_df160 wsJ0_checkIndex_df160) := goodIn_app (goodIn_of _ (by decide +kernel)) ggJ1_charAt_3b067_J0_checkIndex_df160
theorem dJ1_charAt_3b067_0 : decode cJ1_charAt_3b067 0 = .ok (.iload_n 1, 1) := by decide +kernel
theorem dJ1_charAt_3b067_1 : decode cJ1_charAt_3b067 1 = .ok (.aload_n 0, 1) := by decide +kernel
theorem dJ1_charAt_3b067_2 : decode cJ1_charAt_3b067 2 = .ok (.arraylength, 1) := by decide +kernel
theorem dJ1_charAt_3b067_3 : decode cJ1_charAt_3b067 3 = .ok (.invokestatic 9, 3) := by decide +kernel
theorem dJ1_charAt_3b067_6 : decode cJ1_charAt_3b067 6 = .ok (.aload_n 0, 1) := by decide +kernel
theorem dJ1_charAt_3b067_7 : decode cJ1_charAt_3b067 7 = .ok (.iload_n 1, 1) := by decide +kernel
theorem dJ1_charAt_3b067_8 : decode cJ1_charAt_3b067 8 = .ok (.baload, 1) := by decide +kernel
theorem dJ1_charAt_3b067_9 : decode cJ1_charAt_3b067 9 = .ok (.sipush 255, 3) := by decide +kernel
theorem dJ1_charAt_3b067_12 : decode cJ1_charAt_3b067 12 = .ok (.iand, 1) := by decide +kernel
theorem dJ1_charAt_3b067_13 : decode cJ1_charAt_3b067 13 = .ok (.i2c, 1) := by decide +kernel
theorem dJ1_charAt_3b067_14 : decode cJ1_charAt_3b067 14 = .ok (.ireturn, 1) := by decide +kernel
set_option maxRecDepth 20000 in
theorem ggJ2_getChar_3b067_J2_length_9d52b : GoodIn wsJ2_getChar_3b067 wsJ2_length_9d52b := goodIn_r _ [7] (by decide +kernel) (by decide +kernel)
set_option maxRecDepth 20000 in
theorem gJ2_getChar_3b067_J2_length_9d52b : GoodIn wsJ2_getChar_3b067 (va_wsS RJ2 48 yJ2_length_9d52b wsJ2_length_9d52b) := goodIn_app (goodIn_of _ (by decide +kernel)) ggJ2_getChar_3b067_J2_length_9d52b
theorem dJ2_getChar_3b067_0 : decode cJ2_getChar_3b067 0 = .ok (.getstatic 44, 3) := by decide +kernel
theorem dJ2_getChar_3b067_3 : decode cJ2_getChar_3b067 3 = .ok (.ifCond .ne 25, 3) := by decide +kernel
theorem dJ2_getChar_3b067_6 : decode cJ2_getChar_3b067 6 = .ok (.iload_n 1, 1) := by decide +kernel
theorem dJ2_getChar_3b067_7 : decode cJ2_getChar_3b067 7 = .ok (.ifCond .lt 11, 3) := by decide +kernel
theorem dJ2_getChar_3b067_10 : decode cJ2_getChar_3b067 10 = .ok (.iload_n 1, 1) := by decide +kernel
theorem dJ2_getChar_3b067_11 : decode cJ2_getChar_3b067 11 = .ok (.aload_n 0, 1) := by decide +kernel
theorem dJ2_getChar_3b067_12 : decode cJ2_getChar_3b067 12 = .ok (.invokestatic 48, 3) := by decide +kernel
theorem dJ2_getChar_3b067_15 : decode cJ2_getChar_3b067 15 = .ok (.if_icmp .lt 13, 3) := by decide +kernel
theorem dJ2_getChar_3b067_18 : decode cJ2_getChar_3b067 18 = .ok (.new 52, 3) := by decide +kernel
theorem dJ2_getChar_3b067_21 : decode cJ2_getChar_3b067 21 = .ok (.dup, 1) := by decide +kernel
theorem dJ2_getChar_3b067_22 : decode cJ2_getChar_3b067 22 = .ok (.ldc 54, 2) := by decide +kernel
theorem dJ2_getChar_3b067_24 : decode cJ2_getChar_3b067 24 = .ok (.invokespecial 56, 3) := by decide +kernel
theorem dJ2_getChar_3b067_27 : decode cJ2_getChar_3b067 27 = .ok (.athrow, 1) := by decide +kernel
theorem dJ2_getChar_3b067_28 : decode cJ2_getChar_3b067 28 = .ok (.iload_n 1, 1) := by decide +kernel
theorem dJ2_getChar_3b067_29 : decode cJ2_getChar_3b067 29 = .ok (.iconst 1, 1) := by decide +kernel
theorem dJ2_getChar_3b067_30 : decode cJ2_getChar_3b067 30 = .ok (.ishl, 1) := by decide +kernel
theorem dJ2_getChar_3b067_31 : decode cJ2_getChar_3b067 31 = .ok (.istore_n 1, 1) := by decide +kernel
theorem dJ2_getChar_3b067_32 : decode cJ2_getChar_3b067 32 = .ok (.aload_n 0, 1) := by decide +kernel
theorem dJ2_getChar_3b067_33 : decode cJ2_getChar_3b067 33 = .ok (.iload_n 1, 1) := by decide +kernel
theorem dJ2_getChar_3b067_34 : decode cJ2_getChar_3b067 34 = .ok (.iinc 1 1, 3) := by decide +kernel
theorem dJ2_getChar_3b067_37 : decode cJ2_getChar_3b067 37 = .ok (.baload, 1) := by decide +kernel
theorem dJ2_getChar_3b067_38 : decode cJ2_getChar_3b067 38 = .ok (.sipush 255, 3) := by decide +kernel
theorem dJ2_getChar_3b067_41 : decode cJ2_getChar_3b067 41 = .ok (.iand, 1) := by decide +kernel
theorem dJ2_getChar_3b067_42 : decode cJ2_getChar_3b067 42 = .ok (.getstatic 59, 3) := by decide +kernel
theorem dJ2_getChar_3b067_45 : decode cJ2_getChar_3b067 45 = .ok (.ishl, 1) := by decide +kernel
theorem dJ2_getChar_3b067_46 : decode cJ2_getChar_3b067 46 = .ok (.aload_n 0, 1) := by decide +kernel
theorem dJ2_getChar_3b067_47 : decode cJ2_getChar_3b067 47 = .ok (.iload_n 1, 1) := by decide +kernel
theorem dJ2_getChar_3b067_48 : decode cJ2_getChar_3b067 48 = .ok (.baload, 1) := by decide +kernel
theorem dJ2_getChar_3b067_49 : decode cJ2_getChar_3b067 49 = .ok (.sipush 255, 3) := by decide +kernel
theorem dJ2_getChar_3b067_52 : decode cJ2_getChar_3b067 52 = .ok (.iand, 1) := by decide +kernel
theorem dJ2_getChar_3b067_53 : decode cJ2_getChar_3b067 53 = .ok (.getstatic 63, 3) := by decide +kernel
theorem dJ2_getChar_3b067_56 : decode cJ2_getChar_3b067 56 = .ok (.ishl, 1) := by decide +kernel
theorem dJ2_getChar_3b067_57 : decode cJ2_getChar_3b067 57 = .ok (.ior, 1) := by decide +kernel
theorem dJ2_getChar_3b067_58 : decode cJ2_getChar_3b067 58 = .ok (.i2c, 1) := by decide +kernel
theorem dJ2_getChar_3b067_59 : decode cJ2_getChar_3b067 59 = .ok (.ireturn, 1) := by decide +kernel
theorem dJ2_length_9d52b_0 : decode cJ2_length_9d52b 0 = .ok (.aload_n 0, 1) := by decide +kernel
theorem dJ2_length_9d52b_1 : decode cJ2_length_9d52b 1 = .ok (.arraylength, 1) := by decide +kernel
theorem dJ2_length_9d52b_2 : decode cJ2_length_9d52b 2 = .ok (.iconst 1, 1) := by decide +kernel
theorem dJ2_length_9d52b_3 : decode cJ2_length_9d52b 3 = .ok (.ishr, 1) := by decide +kernel
theorem dJ2_length_9d52b_4 : decode cJ2_length_9d52b 4 = .ok (.ireturn, 1) := by decide +kernel
set_option maxRecDepth 20000 in
theorem ggJ2_charAt_3b067_J2_checkIndex_2214a : GoodIn wsJ2_charAt_3b067 wsJ2_checkIndex_2214a := goodIn_r _ [4, 5, 6, 3, 7, 8, 9, 10, 11, 12, 13, 14, 15, 16] (by decide +kernel) (by decide +kernel)
set_option maxRecDepth 20000 in
theorem ggJ2_charAt_3b067_J2_getChar_3b067 : GoodIn wsJ2_charAt_3b067 wsJ2_getChar_3b067 := goodIn_r _ [19, 20, 21, 22, 5, 6, 3, 7] (by decide +kernel) (by decide +kernel)
set_option maxRecDepth 20000 in
theorem gJ2_charAt_3b067_J2_checkIndex_2214a : GoodIn wsJ2_charAt_3b067 (va_wsS RJ2 67 yJ2_checkIndex_2214a wsJ2_checkIndex_2214a) := goodIn_app (goodIn_of _ (by decide +kernel)) ggJ2_charAt_3b067_J2_checkIndex_2214a
set_option maxRecDepth 20000 in
theorem gJ2_charAt_3b067_J2_getChar_3b067 : GoodIn wsJ2_charAt_3b067 (va_wsS RJ2 71 yJ2_getChar_3b067 wsJ2_getChar_3b067) := goodIn_app (goodIn_of _ (by decide +kernel)) ggJ2_charAt_3b067_J2_getChar_3b067
theorem dJ2_charAt_3b067_0 : decode cJ2_charAt_3b067 0 = .ok (.iload_n 1, 1) := by decide +kernel
theorem dJ2_charAt_3b067_1 : decode cJ2_charAt_3b067 1 = .ok (.aload_n 0, 1) := by decide +kernel
theorem dJ2_charAt_3b067_2 : decode cJ2_charAt_3b067 2 = .ok (.invokestatic 67, 3) := by decide +kernel
theorem dJ2_charAt_3b067_5 : decode cJ2_charAt_3b067 5 = .ok (.aload_n 0, 1) := by decide +kernel
theorem dJ2_charAt_3b067_6 : decode cJ2_charAt_3b067 6 = .ok (.iload_n 1, 1) := by decide +kernel
theorem dJ2_charAt_3b067_7 : decode cJ2_charAt_3b067 7 = .ok (.invokestatic 71, 3) := by decide +kernel
theorem dJ2_charAt_3b067_10 : decode cJ2_charAt_3b067 10 = .ok (.ireturn, 1) := by decide +kernel
set_option maxRecDepth 20000 in
theorem ggJ2_checkIndex_2214a_J2_length_9d52b : GoodIn wsJ2_checkIndex_2214a wsJ2_length_9d52b := goodIn_r _ [4] (by decide +kernel) (by decide +kernel)
set_option maxRecDepth 20000 in
theorem ggJ2_checkIndex_2214a_J0_checkIndex_df160 : GoodIn wsJ2_checkIndex_2214a wsJ0_checkIndex_df160 := goodIn_r _ [8, 9, 10, 11, 12, 13] (by decide +kernel) (by decide +kernel)
set_option maxRecDepth 20000 in
theorem gJ2_checkIndex_2214a_J2_length_9d52b : GoodIn wsJ2_checkIndex_2214a (va_wsS RJ2 48 yJ2_length_9d52b wsJ2_length_9d52b) := goodIn_app (goodIn_of _ (by decide +kernel)) ggJ2_checkIndex_2214a_J2_length_9d52b
set_option maxRecDepth 20000 in
theorem gJ2_checkIndex_2214a_J0_checkIndex_df160 : GoodIn wsJ2_checkIndex_2214a (va_wsS RJ2 414 yJ0_checkIndex_df160 wsJ0_checkIndex_df160) := goodIn_app (goodIn_of _ (by decide +kernel)) ggJ2_checkIndex_2214a_J0_checkIndex_df160
theorem dJ2_checkIndex_2214a_0 : decode cJ2_checkIndex_2214a 0 = .ok (.iload_n 0, 1) := by decide +kernel
theorem dJ2_checkIndex_2214a_1 : decode cJ2_checkIndex_2214a 1 = .ok (.aload_n 1, 1) := by decide +kernel
theorem dJ2_checkIndex_2214a_2 : decode cJ2_checkIndex_2214a 2 = .ok (.invokestatic 48, 3) := by decide +kernel
theorem dJ2_checkIndex_2214a_5 : decode cJ2_checkIndex_2214a 5 = .ok (.invokestatic 414, 3) := by decide +kernel
theorem dJ2_checkIndex_2214a_8 : decode cJ2_checkIndex_2214a 8 = .ok (.return_, 1) := by decide +kernel
theorem dJ3_checkIndex_8e157_0 : decode cJ3_checkIndex_8e157 0 = .ok (.iload_n 0, 1) := by decide +kernel
theorem dJ3_checkIndex_8e157_1 : decode cJ3_checkIndex_8e157 1 = .ok (.ifCond .lt 8, 3) := by decide +kernel
theorem dJ3_checkIndex_8e157_4 : decode cJ3_checkIndex_8e157 4 = .ok (.iload_n 0, 1) := by decide +kernel
theorem dJ3_checkIndex_8e157_5 : decode cJ3_checkIndex_8e157 5 = .ok (.iload_n 1, 1) := by decide +kernel
theorem dJ3_checkIndex_8e157_6 : decode cJ3_checkIndex_8e157 6 = .ok (.if_icmp .lt 10, 3) := by decide +kernel
theorem dJ3_checkIndex_8e157_9 : decode cJ3_checkIndex_8e157 9 = .ok (.aload_n 2, 1) := by decide +kernel
theorem dJ3_checkIndex_8e157_10 : decode cJ3_checkIndex_8e157 10 = .ok (.iload_n 0, 1) := by decide +kernel
theorem dJ3_checkIndex_8e157_11 : decode cJ3_checkIndex_8e157 11 = .ok (.iload_n 1, 1) := by decide +kernel
theorem dJ3_checkIndex_8e157_12 : decode cJ3_checkIndex_8e157 12 = .ok (.invokestatic 95, 3) := by decide +kernel
theorem dJ3_checkIndex_8e157_15 : decode cJ3_checkIndex_8e157 15 = .ok (.athrow, 1) := by decide +kernel
theorem dJ3_checkIndex_8e157_16 : decode cJ3_checkIndex_8e157 16 = .ok (.iload_n 0, 1) := by decide +kernel
theorem dJ3_checkIndex_8e157_17 : decode cJ3_checkIndex_8e157 17 = .ok (.ireturn, 1) := by decide +kernel
set_option maxRecDepth 20000 in
theorem ggX5_letterAt_X5_codeAt : GoodIn wsX5_letterAt wsX5_codeAt := goodIn_r _ [5, 6, 7, 8, 9] (by decide +kernel) (by decide +kernel)
set_option maxRecDepth 20000 in
theorem gX5_letterAt_X5_codeAt : GoodIn wsX5_letterAt (wsV RX5 19 RX5 yX5_codeAt wsX5_codeAt) := goodIn_app (goodIn_of _ (by decide +kernel)) ggX5_letterAt_X5_codeAt
set_option maxRecDepth 20000 in
theorem ggX5_isPartEnd_X5_codeAt : GoodIn wsX5_isPartEnd wsX5_codeAt := goodIn_r _ [6, 1, 7, 8, 9] (by decide +kernel) (by decide +kernel)
set_option maxRecDepth 20000 in
theorem gX5_isPartEnd_X5_codeAt : GoodIn wsX5_isPartEnd (wsV RX5 19 RX5 yX5_codeAt wsX5_codeAt) := goodIn_app (goodIn_of _ (by decide +kernel)) ggX5_isPartEnd_X5_codeAt
set_option maxRecDepth 20000 in
theorem ggX5_numberIn_X5_codeAt : GoodIn wsX5_numberIn wsX5_codeAt := goodIn_r _ [5, 6, 7, 8, 9] (by decide +kernel) (by decide +kernel)
set_option maxRecDepth 20000 in
theorem gX5_numberIn_X5_codeAt : GoodIn wsX5_numberIn (wsV RX5 19 RX5 yX5_codeAt wsX5_codeAt) := goodIn_app (goodIn_of _ (by decide +kernel)) ggX5_numberIn_X5_codeAt
set_option maxRecDepth 20000 in
theorem ggX5_isWhole_X5_isPartEnd : GoodIn wsX5_isWhole wsX5_isPartEnd := goodIn_r _ [6, 1, 7, 8, 9, 5, 10, 11, 84, 85] (by decide +kernel) (by decide +kernel)
set_option maxRecDepth 20000 in
theorem gX5_isWhole_X5_isPartEnd : GoodIn wsX5_isWhole (wsV RX5 23 RX5 yX5_isPartEnd wsX5_isPartEnd) := goodIn_app (goodIn_of _ (by decide +kernel)) ggX5_isWhole_X5_isPartEnd
set_option maxRecDepth 20000 in
theorem ggX5_isWhole_X5_kindOf : GoodIn wsX5_isWhole wsX5_kindOf := goodIn_r _ [15, 16, 17, 18, 5, 19, 20, 21, 22, 23, 24, 25, 26, 27, 28, 29, 30, 31, 7, 8, 9, 10, 1, 11, 32, 33, 34, 35, 36, 37, 38, 39, 40, 41, 42, 43, 44, 45, 46, 47, 48, 49, 50, 51, 52, 53, 54, 55, 56, 57, 58, 59, 60, 61, 62, 63, 64, 65, 66, 67, 68, 69, 70, 71, 72, 73, 74, 75, 76, 77, 78, 79, 80, 81, 82, 83, 84, 85] (by decide +kernel) (by decide +kernel)
set_option maxRecDepth 20000 in
theorem gX5_isWhole_X5_kindOf : GoodIn wsX5_isWhole (wsV RX5 27 RX5 yX5_kindOf wsX5_kindOf) := goodIn_app (goodIn_of _ (by decide +kernel)) ggX5_isWhole_X5_kindOf
set_option maxRecDepth 20000 in
theorem ggX5_firstMisfit_X5_codeAt : GoodIn wsX5_firstMisfit wsX5_codeAt := goodIn_r _ [6, 1, 7, 88, 89] (by decide +kernel) (by decide +kernel)
set_option maxRecDepth 20000 in
theorem gX5_firstMisfit_X5_codeAt : GoodIn wsX5_firstMisfit (wsV RX5 19 RX5 yX5_codeAt wsX5_codeAt) := goodIn_app (goodIn_of _ (by decide +kernel)) ggX5_firstMisfit_X5_codeAt
set_option maxRecDepth 20000 in
theorem ggX5_firstMisfit_X5_kindOf : GoodIn wsX5_firstMisfit wsX5_kindOf := goodIn_r _ [11, 12, 13, 14, 5, 15, 16, 17, 18, 19, 20, 21, 22, 23, 24, 25, 26, 27, 2, 3, 4, 6, 1, 7, 28, 29, 30, 31, 32, 33, 34, 35, 36, 37, 38, 39, 40, 41, 42, 43, 44, 45, 46, 47, 48, 49, 50, 51, 52, 53, 54, 55, 56, 57, 58, 59, 60, 61, 62, 63, 64, 65, 66, 67, 68, 69, 70, 71, 72, 73, 74, 75, 76, 77, 78, 79, 88, 89] (by decide +kernel) (by decide +kernel)
set_option maxRecDepth 20000 in
theorem gX5_firstMisfit_X5_kindOf : GoodIn wsX5_firstMisfit (wsV RX5 27 RX5 yX5_kindOf wsX5_kindOf) := goodIn_app (goodIn_of _ (by decide +kernel)) ggX5_firstMisfit_X5_kindOf
set_option maxRecDepth 20000 in
theorem ggX5_firstMisfit_X5_firstMisfitOfPart : GoodIn wsX5_firstMisfit wsX5_firstMisfitOfPart := goodIn_r _ [83, 84, 85, 86, 87, 12, 13, 14, 5, 15, 16, 17, 18, 19, 20, 21, 22, 23, 24, 25, 26, 27, 2, 3, 4, 6, 1, 7, 28, 29, 30, 31, 32, 33, 34, 35, 36, 37, 38, 39, 40, 41, 42, 43, 44, 45, 46, 47, 48, 49, 50, 51, 52, 53, 54, 55, 56, 57, 58, 59, 60, 61, 62, 63, 64, 65, 66, 67, 68, 69, 70, 71, 72, 73, 74, 75, 76, 77, 78, 79, 88, 89] (by decide +kernel) (by decide +kernel)
set_option maxRecDepth 20000 in
theorem gX5_firstMisfit_X5_firstMisfitOfPart : GoodIn wsX5_firstMisfit (wsV RX5 31 RX5 yX5_firstMisfitOfPart wsX5_firstMisfitOfPart) := goodIn_app (goodIn_of _ (by decide +kernel)) ggX5_firstMisfit_X5_firstMisfitOfPart
set_option maxRecDepth 20000 in
theorem ggX5_kindOf_X5_firstMisfitFor : GoodIn wsX5_kindOf wsX5_firstMisfitFor := goodIn_r _ [5, 6, 7, 8, 9, 10, 11, 12, 13, 14, 15, 16, 17, 18, 19, 20, 4, 21, 22, 23, 24, 25, 26, 27, 28, 29, 30, 31, 32, 33, 34, 35, 36, 37, 38, 39, 40, 41, 42, 43, 44, 45, 46, 47, 48, 49, 50, 51, 52, 53, 54, 55, 56, 57, 58, 59, 60, 61, 62, 63, 64, 65, 66, 67, 68, 69, 70, 71, 72, 73, 74, 75, 76, 77] (by decide +kernel) (by decide +kernel)
set_option maxRecDepth 20000 in
theorem gX5_kindOf_X5_firstMisfitFor : GoodIn wsX5_kindOf (wsV RX5 44 RX5 yX5_firstMisfitFor wsX5_firstMisfitFor) := goodIn_app (goodIn_of _ (by decide +kernel)) ggX5_kindOf_X5_firstMisfitFor
set_option maxRecDepth 20000 in
theorem ggX5_firstMisfitOfPart_X5_firstMisfitFor : GoodIn wsX5_firstMisfitOfPart wsX5_firstMisfitFor := goodIn_r _ [9, 10, 11, 12, 13, 14, 15, 16, 17, 18, 19, 20, 21, 22, 23, 24, 8, 25, 26, 27, 28, 29, 30, 31, 32, 33, 34, 35, 36, 37, 38, 39, 40, 41, 42, 43, 44, 45, 46, 47, 48, 49, 50, 51, 52, 53, 54, 55, 56, 57, 58, 59, 60, 61, 62, 63, 64, 65, 66, 67, 68, 69, 70, 71, 72, 73, 74, 75, 76, 77, 78, 79, 80, 81] (by decide +kernel) (by decide +kernel)
set_option maxRecDepth 20000 in
theorem gX5_firstMisfitOfPart_X5_firstMisfitFor : GoodIn wsX5_firstMisfitOfPart (wsV RX5 44 RX5 yX5_firstMisfitFor wsX5_firstMisfitFor) := goodIn_app (goodIn_of _ (by decide +kernel)) ggX5_firstMisfitOfPart_X5_firstMisfitFor
set_option maxRecDepth 20000 in
theorem ggX5_firstMisfitFor_J0_length_8abf5 : GoodIn wsX5_firstMisfitFor wsJ0_length_8abf5 := goodIn_r _ [5, 6, 7, 8, 9, 4, 10, 11, 12] (by decide +kernel) (by decide +kernel)
set_option maxRecDepth 20000 in
theorem gX5_firstMisfitFor_J0_length_8abf5 : GoodIn wsX5_firstMisfitFor (wsV RX5 57 RJ0 yJ0_length_8abf5 wsJ0_length_8abf5) := goodIn_app (goodIn_of _ (by decide +kernel)) ggX5_firstMisfitFor_J0_length_8abf5
set_option maxRecDepth 20000 in
theorem ggX5_firstMisfitFor_X5_codeAt : GoodIn wsX5_firstMisfitFor wsX5_codeAt := goodIn_r _ [17, 18, 19, 72, 73] (by decide +kernel) (by decide +kernel)
set_option maxRecDepth 20000 in
theorem gX5_firstMisfitFor_X5_codeAt : GoodIn wsX5_firstMisfitFor (wsV RX5 19 RX5 yX5_codeAt wsX5_codeAt) := goodIn_app (goodIn_of _ (by decide +kernel)) ggX5_firstMisfitFor_X5_codeAt
set_option maxRecDepth 20000 in
theorem ggX5_firstMisfitFor_J0_charAt_5068e : GoodIn wsX5_firstMisfitFor wsJ0_charAt_5068e := goodIn_r _ [23, 6, 24, 25, 26, 4, 27, 11, 12, 28, 29, 30, 31, 32, 33, 34, 35, 36, 37, 38, 39, 40, 41, 42, 43, 44, 45, 46, 47, 48, 49, 50, 51, 52, 53, 54, 55, 56] (by decide +kernel) (by decide +kernel)
set_option maxRecDepth 20000 in
theorem gX5_firstMisfitFor_J0_charAt_5068e : GoodIn wsX5_firstMisfitFor (wsV RX5 62 RJ0 yJ0_charAt_5068e wsJ0_charAt_5068e) := goodIn_app (goodIn_of _ (by decide +kernel)) ggX5_firstMisfitFor_J0_charAt_5068e
set_option maxRecDepth 20000 in
theorem ggX5_firstMisfitFor_X5_firstNoLetter : GoodIn wsX5_firstMisfitFor wsX5_firstNoLetter := goodIn_r _ [60, 61, 62, 63, 16, 64, 13, 14, 15, 17, 18, 19, 65, 66, 67, 72, 73] (by decide +kernel) (by decide +kernel)
set_option maxRecDepth 20000 in
theorem gX5_firstMisfitFor_X5_firstNoLetter : GoodIn wsX5_firstMisfitFor (wsV RX5 69 RX5 yX5_firstNoLetter wsX5_firstNoLetter) := goodIn_app (goodIn_of _ (by decide +kernel)) ggX5_firstMisfitFor_X5_firstNoLetter
set_option maxRecDepth 20000 in
theorem ggX5_firstMisfitFor_X5_firstNoDigit : GoodIn wsX5_firstMisfitFor wsX5_firstNoDigit := goodIn_r _ [71, 13, 14, 15, 16, 17, 18, 19, 72, 73] (by decide +kernel) (by decide +kernel)
set_option maxRecDepth 20000 in
theorem gX5_firstMisfitFor_X5_firstNoDigit : GoodIn wsX5_firstMisfitFor (wsV RX5 72 RX5 yX5_firstNoDigit wsX5_firstNoDigit) := goodIn_app (goodIn_of _ (by decide +kernel)) ggX5_firstMisfitFor_X5_firstNoDigit
set_option maxRecDepth 20000 in
theorem ggX5_firstNoLetter_X5_letterAt : GoodIn wsX5_firstNoLetter wsX5_letterAt := goodIn_r _ [5, 6, 7, 8, 4, 9, 10, 11, 15, 16] (by decide +kernel) (by decide +kernel)
set_option maxRecDepth 20000 in
theorem gX5_firstNoLetter_X5_letterAt : GoodIn wsX5_firstNoLetter (wsV RX5 75 RX5 yX5_letterAt wsX5_letterAt) := goodIn_app (goodIn_of _ (by decide +kernel)) ggX5_firstNoLetter_X5_letterAt
set_option maxRecDepth 20000 in
theorem ggX5_firstNoLetter_X6_isSort : GoodIn wsX5_firstNoLetter wsX6_isSort := goodIn_r _ [14] (by decide +kernel) (by decide +kernel)
set_option maxRecDepth 20000 in
theorem gX5_firstNoLetter_X6_isSort_n78 : GoodIn wsX5_firstNoLetter (wsX6_isSort) := ggX5_firstNoLetter_X6_isSort
set_option maxRecDepth 20000 in
theorem ggX5_firstNoDigit_X5_codeAt : GoodIn wsX5_firstNoDigit wsX5_codeAt := goodIn_r _ [5, 6, 7, 8, 9] (by decide +kernel) (by decide +kernel)
set_option maxRecDepth 20000 in
theorem gX5_firstNoDigit_X5_codeAt : GoodIn wsX5_firstNoDigit (wsV RX5 19 RX5 yX5_codeAt wsX5_codeAt) := goodIn_app (goodIn_of _ (by decide +kernel)) ggX5_firstNoDigit_X5_codeAt
theorem dX5_init_0 : decode cX5_init 0 = .ok (.aload_n 0, 1) := by decide +kernel
theorem dX5_init_1 : decode cX5_init 1 = .ok (.invokespecial 3, 3) := by decide +kernel
theorem dX5_init_4 : decode cX5_init 4 = .ok (.aload_n 0, 1) := by decide +kernel
theorem dX5_init_5 : decode cX5_init 5 = .ok (.bipush 60, 2) := by decide +kernel
theorem dX5_init_7 : decode cX5_init 7 = .ok (.newarray .int, 2) := by decide +kernel
theorem dX5_init_9 : decode cX5_init 9 = .ok (.putfield 9, 3) := by decide +kernel
theorem dX5_init_12 : decode cX5_init 12 = .ok (.aload_n 0, 1) := by decide +kernel
theorem dX5_init_13 : decode cX5_init 13 = .ok (.iconst 0, 1) := by decide +kernel
theorem dX5_init_14 : decode cX5_init 14 = .ok (.putfield 15, 3) := by decide +kernel
theorem dX5_init_17 : decode cX5_init 17 = .ok (.return_, 1) := by decide +kernel
theorem dX5_add_0 : decode cX5_add 0 = .ok (.aload_n 0, 1) := by decide +kernel
theorem dX5_add_1 : decode cX5_add 1 = .ok (.getfield 15, 3) := by decide +kernel
theorem dX5_add_4 : decode cX5_add 4 = .ok (.ifCond .lt 35, 3) := by decide +kernel
theorem dX5_add_7 : decode cX5_add 7 = .ok (.aload_n 0, 1) := by decide +kernel
theorem dX5_add_8 : decode cX5_add 8 = .ok (.getfield 15, 3) := by decide +kernel
theorem dX5_add_11 : decode cX5_add 11 = .ok (.aload_n 0, 1) := by decide +kernel
theorem dX5_add_12 : decode cX5_add 12 = .ok (.getfield 9, 3) := by decide +kernel
theorem dX5_add_15 : decode cX5_add 15 = .ok (.arraylength, 1) := by decide +kernel
theorem dX5_add_16 : decode cX5_add 16 = .ok (.if_icmp .ge 23, 3) := by decide +kernel
theorem dX5_add_19 : decode cX5_add 19 = .ok (.aload_n 0, 1) := by decide +kernel
theorem dX5_add_20 : decode cX5_add 20 = .ok (.getfield 9, 3) := by decide +kernel
theorem dX5_add_23 : decode cX5_add 23 = .ok (.aload_n 0, 1) := by decide +kernel
theorem dX5_add_24 : decode cX5_add 24 = .ok (.getfield 15, 3) := by decide +kernel
theorem dX5_add_27 : decode cX5_add 27 = .ok (.iload_n 1, 1) := by decide +kernel
theorem dX5_add_28 : decode cX5_add 28 = .ok (.iastore, 1) := by decide +kernel
theorem dX5_add_29 : decode cX5_add 29 = .ok (.aload_n 0, 1) := by decide +kernel
theorem dX5_add_30 : decode cX5_add 30 = .ok (.dup, 1) := by decide +kernel
theorem dX5_add_31 : decode cX5_add 31 = .ok (.getfield 15, 3) := by decide +kernel
theorem dX5_add_34 : decode cX5_add 34 = .ok (.iconst 1, 1) := by decide +kernel
theorem dX5_add_35 : decode cX5_add 35 = .ok (.iadd, 1) := by decide +kernel
theorem dX5_add_36 : decode cX5_add 36 = .ok (.putfield 15, 3) := by decide +kernel
theorem dX5_add_39 : decode cX5_add 39 = .ok (.return_, 1) := by decide +kernel
theorem dX5_clear_0 : decode cX5_clear 0 = .ok (.aload_n 0, 1) := by decide +kernel
theorem dX5_clear_1 : decode cX5_clear 1 = .ok (.iconst 0, 1) := by decide +kernel
theorem dX5_clear_2 : decode cX5_clear 2 = .ok (.putfield 15, 3) := by decide +kernel
theorem dX5_clear_5 : decode cX5_clear 5 = .ok (.return_, 1) := by decide +kernel
theorem dX5_codeAt_0 : decode cX5_codeAt 0 = .ok (.iload_n 1, 1) := by decide +kernel
theorem dX5_codeAt_1 : decode cX5_codeAt 1 = .ok (.ifCond .lt 29, 3) := by decide +kernel
theorem dX5_codeAt_4 : decode cX5_codeAt 4 = .ok (.iload_n 1, 1) := by decide +kernel
theorem dX5_codeAt_5 : decode cX5_codeAt 5 = .ok (.aload_n 0, 1) := by decide +kernel
theorem dX5_codeAt_6 : decode cX5_codeAt 6 = .ok (.getfield 15, 3) := by decide +kernel
theorem dX5_codeAt_9 : decode cX5_codeAt 9 = .ok (.if_icmp .ge 21, 3) := by decide +kernel
theorem dX5_codeAt_12 : decode cX5_codeAt 12 = .ok (.iload_n 1, 1) := by decide +kernel
theorem dX5_codeAt_13 : decode cX5_codeAt 13 = .ok (.aload_n 0, 1) := by decide +kernel
theorem dX5_codeAt_14 : decode cX5_codeAt 14 = .ok (.getfield 9, 3) := by decide +kernel
theorem dX5_codeAt_17 : decode cX5_codeAt 17 = .ok (.arraylength, 1) := by decide +kernel
theorem dX5_codeAt_18 : decode cX5_codeAt 18 = .ok (.if_icmp .ge 12, 3) := by decide +kernel
theorem dX5_codeAt_21 : decode cX5_codeAt 21 = .ok (.aload_n 0, 1) := by decide +kernel
theorem dX5_codeAt_22 : decode cX5_codeAt 22 = .ok (.getfield 9, 3) := by decide +kernel
theorem dX5_codeAt_25 : decode cX5_codeAt 25 = .ok (.iload_n 1, 1) := by decide +kernel
theorem dX5_codeAt_26 : decode cX5_codeAt 26 = .ok (.iaload, 1) := by decide +kernel
theorem dX5_codeAt_27 : decode cX5_codeAt 27 = .ok (.goto 4, 3) := by decide +kernel
theorem dX5_codeAt_30 : decode cX5_codeAt 30 = .ok (.iconst (-1), 1) := by decide +kernel
theorem dX5_codeAt_31 : decode cX5_codeAt 31 = .ok (.ireturn, 1) := by decide +kernel
theorem dX5_letterAt_0 : decode cX5_letterAt 0 = .ok (.aload_n 0, 1) := by decide +kernel
theorem dX5_letterAt_1 : decode cX5_letterAt 1 = .ok (.iload_n 1, 1) := by decide +kernel
theorem dX5_letterAt_2 : decode cX5_letterAt 2 = .ok (.invokevirtual 19, 3) := by decide +kernel
theorem dX5_letterAt_5 : decode cX5_letterAt 5 = .ok (.bipush 97, 2) := by decide +kernel
theorem dX5_letterAt_7 : decode cX5_letterAt 7 = .ok (.isub, 1) := by decide +kernel
theorem dX5_letterAt_8 : decode cX5_letterAt 8 = .ok (.ireturn, 1) := by decide +kernel
theorem dX5_isPartEnd_0 : decode cX5_isPartEnd 0 = .ok (.iload_n 1, 1) := by decide +kernel
theorem dX5_isPartEnd_1 : decode cX5_isPartEnd 1 = .ok (.aload_n 0, 1) := by decide +kernel
theorem dX5_isPartEnd_2 : decode cX5_isPartEnd 2 = .ok (.getfield 15, 3) := by decide +kernel
theorem dX5_isPartEnd_5 : decode cX5_isPartEnd 5 = .ok (.if_icmp .eq 13, 3) := by decide +kernel
theorem dX5_isPartEnd_8 : decode cX5_isPartEnd 8 = .ok (.aload_n 0, 1) := by decide +kernel
theorem dX5_isPartEnd_9 : decode cX5_isPartEnd 9 = .ok (.iload_n 1, 1) := by decide +kernel
theorem dX5_isPartEnd_10 : decode cX5_isPartEnd 10 = .ok (.invokevirtual 19, 3) := by decide +kernel
theorem dX5_isPartEnd_13 : decode cX5_isPartEnd 13 = .ok (.bipush 59, 2) := by decide +kernel
theorem dX5_isPartEnd_15 : decode cX5_isPartEnd 15 = .ok (.if_icmp .ne 7, 3) := by decide +kernel
theorem dX5_isPartEnd_18 : decode cX5_isPartEnd 18 = .ok (.iconst 1, 1) := by decide +kernel
theorem dX5_isPartEnd_19 : decode cX5_isPartEnd 19 = .ok (.goto 4, 3) := by decide +kernel
theorem dX5_isPartEnd_22 : decode cX5_isPartEnd 22 = .ok (.iconst 0, 1) := by decide +kernel
theorem dX5_isPartEnd_23 : decode cX5_isPartEnd 23 = .ok (.ireturn, 1) := by decide +kernel
theorem dX5_numberIn_0 : decode cX5_numberIn 0 = .ok (.iconst 0, 1) := by decide +kernel
theorem dX5_numberIn_1 : decode cX5_numberIn 1 = .ok (.istore_n 3, 1) := by decide +kernel
theorem dX5_numberIn_2 : decode cX5_numberIn 2 = .ok (.iload_n 1, 1) := by decide +kernel
theorem dX5_numberIn_3 : decode cX5_numberIn 3 = .ok (.istore 4, 2) := by decide +kernel
theorem dX5_numberIn_5 : decode cX5_numberIn 5 = .ok (.iload 4, 2) := by decide +kernel
theorem dX5_numberIn_7 : decode cX5_numberIn 7 = .ok (.iload_n 2, 1) := by decide +kernel
theorem dX5_numberIn_8 : decode cX5_numberIn 8 = .ok (.if_icmp .ge 24, 3) := by decide +kernel
theorem dX5_numberIn_11 : decode cX5_numberIn 11 = .ok (.iload_n 3, 1) := by decide +kernel
theorem dX5_numberIn_12 : decode cX5_numberIn 12 = .ok (.bipush 10, 2) := by decide +kernel
theorem dX5_numberIn_14 : decode cX5_numberIn 14 = .ok (.imul, 1) := by decide +kernel
theorem dX5_numberIn_15 : decode cX5_numberIn 15 = .ok (.aload_n 0, 1) := by decide +kernel
theorem dX5_numberIn_16 : decode cX5_numberIn 16 = .ok (.iload 4, 2) := by decide +kernel
theorem dX5_numberIn_18 : decode cX5_numberIn 18 = .ok (.invokevirtual 19, 3) := by decide +kernel
theorem dX5_numberIn_21 : decode cX5_numberIn 21 = .ok (.iadd, 1) := by decide +kernel
theorem dX5_numberIn_22 : decode cX5_numberIn 22 = .ok (.bipush 48, 2) := by decide +kernel
theorem dX5_numberIn_24 : decode cX5_numberIn 24 = .ok (.isub, 1) := by decide +kernel
theorem dX5_numberIn_25 : decode cX5_numberIn 25 = .ok (.istore_n 3, 1) := by decide +kernel
theorem dX5_numberIn_26 : decode cX5_numberIn 26 = .ok (.iinc 4 1, 3) := by decide +kernel
theorem dX5_numberIn_29 : decode cX5_numberIn 29 = .ok (.goto (-24), 3) := by decide +kernel
theorem dX5_numberIn_32 : decode cX5_numberIn 32 = .ok (.iload_n 3, 1) := by decide +kernel
theorem dX5_numberIn_33 : decode cX5_numberIn 33 = .ok (.ireturn, 1) := by decide +kernel
theorem dX5_isWhole_0 : decode cX5_isWhole 0 = .ok (.iconst 0, 1) := by decide +kernel
theorem dX5_isWhole_1 : decode cX5_isWhole 1 = .ok (.istore_n 1, 1) := by decide +kernel
theorem dX5_isWhole_2 : decode cX5_isWhole 2 = .ok (.iconst 0, 1) := by decide +kernel
theorem dX5_isWhole_3 : decode cX5_isWhole 3 = .ok (.istore_n 2, 1) := by decide +kernel
theorem dX5_isWhole_4 : decode cX5_isWhole 4 = .ok (.iload_n 2, 1) := by decide +kernel
theorem dX5_isWhole_5 : decode cX5_isWhole 5 = .ok (.aload_n 0, 1) := by decide +kernel
theorem dX5_isWhole_6 : decode cX5_isWhole 6 = .ok (.getfield 15, 3) := by decide +kernel
theorem dX5_isWhole_9 : decode cX5_isWhole 9 = .ok (.if_icmp .gt 32, 3) := by decide +kernel
theorem dX5_isWhole_12 : decode cX5_isWhole 12 = .ok (.aload_n 0, 1) := by decide +kernel
theorem dX5_isWhole_13 : decode cX5_isWhole 13 = .ok (.iload_n 2, 1) := by decide +kernel
theorem dX5_isWhole_14 : decode cX5_isWhole 14 = .ok (.invokevirtual 23, 3) := by decide +kernel
theorem dX5_isWhole_17 : decode cX5_isWhole 17 = .ok (.ifCond .eq 18, 3) := by decide +kernel
theorem dX5_isWhole_20 : decode cX5_isWhole 20 = .ok (.aload_n 0, 1) := by decide +kernel
theorem dX5_isWhole_21 : decode cX5_isWhole 21 = .ok (.iload_n 1, 1) := by decide +kernel
theorem dX5_isWhole_22 : decode cX5_isWhole 22 = .ok (.iload_n 2, 1) := by decide +kernel
theorem dX5_isWhole_23 : decode cX5_isWhole 23 = .ok (.invokevirtual 27, 3) := by decide +kernel
theorem dX5_isWhole_26 : decode cX5_isWhole 26 = .ok (.ifnonnull 5, 3) := by decide +kernel
theorem dX5_isWhole_29 : decode cX5_isWhole 29 = .ok (.iconst 0, 1) := by decide +kernel
theorem dX5_isWhole_30 : decode cX5_isWhole 30 = .ok (.ireturn, 1) := by decide +kernel
theorem dX5_isWhole_31 : decode cX5_isWhole 31 = .ok (.iload_n 2, 1) := by decide +kernel
theorem dX5_isWhole_32 : decode cX5_isWhole 32 = .ok (.iconst 1, 1) := by decide +kernel
theorem dX5_isWhole_33 : decode cX5_isWhole 33 = .ok (.iadd, 1) := by decide +kernel
theorem dX5_isWhole_34 : decode cX5_isWhole 34 = .ok (.istore_n 1, 1) := by decide +kernel
theorem dX5_isWhole_35 : decode cX5_isWhole 35 = .ok (.iinc 2 1, 3) := by decide +kernel
theorem dX5_isWhole_38 : decode cX5_isWhole 38 = .ok (.goto (-34), 3) := by decide +kernel
theorem dX5_isWhole_41 : decode cX5_isWhole 41 = .ok (.iconst 1, 1) := by decide +kernel
theorem dX5_isWhole_42 : decode cX5_isWhole 42 = .ok (.ireturn, 1) := by decide +kernel
theorem dX5_firstMisfit_0 : decode cX5_firstMisfit 0 = .ok (.iconst 0, 1) := by decide +kernel
theorem dX5_firstMisfit_1 : decode cX5_firstMisfit 1 = .ok (.istore_n 1, 1) := by decide +kernel
theorem dX5_firstMisfit_2 : decode cX5_firstMisfit 2 = .ok (.iconst 0, 1) := by decide +kernel
theorem dX5_firstMisfit_3 : decode cX5_firstMisfit 3 = .ok (.istore_n 2, 1) := by decide +kernel
theorem dX5_firstMisfit_4 : decode cX5_firstMisfit 4 = .ok (.iload_n 2, 1) := by decide +kernel
theorem dX5_firstMisfit_5 : decode cX5_firstMisfit 5 = .ok (.aload_n 0, 1) := by decide +kernel
theorem dX5_firstMisfit_6 : decode cX5_firstMisfit 6 = .ok (.getfield 15, 3) := by decide +kernel
theorem dX5_firstMisfit_9 : decode cX5_firstMisfit 9 = .ok (.if_icmp .ge 39, 3) := by decide +kernel
theorem dX5_firstMisfit_12 : decode cX5_firstMisfit 12 = .ok (.aload_n 0, 1) := by decide +kernel
theorem dX5_firstMisfit_13 : decode cX5_firstMisfit 13 = .ok (.iload_n 2, 1) := by decide +kernel
theorem dX5_firstMisfit_14 : decode cX5_firstMisfit 14 = .ok (.invokevirtual 19, 3) := by decide +kernel
theorem dX5_firstMisfit_17 : decode cX5_firstMisfit 17 = .ok (.bipush 59, 2) := by decide +kernel
theorem dX5_firstMisfit_19 : decode cX5_firstMisfit 19 = .ok (.if_icmp .ne 23, 3) := by decide +kernel
theorem dX5_firstMisfit_22 : decode cX5_firstMisfit 22 = .ok (.aload_n 0, 1) := by decide +kernel
theorem dX5_firstMisfit_23 : decode cX5_firstMisfit 23 = .ok (.iload_n 1, 1) := by decide +kernel
theorem dX5_firstMisfit_24 : decode cX5_firstMisfit 24 = .ok (.iload_n 2, 1) := by decide +kernel
theorem dX5_firstMisfit_25 : decode cX5_firstMisfit 25 = .ok (.invokevirtual 27, 3) := by decide +kernel
theorem dX5_firstMisfit_28 : decode cX5_firstMisfit 28 = .ok (.ifnonnull 10, 3) := by decide +kernel
theorem dX5_firstMisfit_31 : decode cX5_firstMisfit 31 = .ok (.aload_n 0, 1) := by decide +kernel
theorem dX5_firstMisfit_32 : decode cX5_firstMisfit 32 = .ok (.iload_n 1, 1) := by decide +kernel
theorem dX5_firstMisfit_33 : decode cX5_firstMisfit 33 = .ok (.iload_n 2, 1) := by decide +kernel
theorem dX5_firstMisfit_34 : decode cX5_firstMisfit 34 = .ok (.invokevirtual 31, 3) := by decide +kernel
theorem dX5_firstMisfit_37 : decode cX5_firstMisfit 37 = .ok (.ireturn, 1) := by decide +kernel
theorem dX5_firstMisfit_38 : decode cX5_firstMisfit 38 = .ok (.iload_n 2, 1) := by decide +kernel
theorem dX5_firstMisfit_39 : decode cX5_firstMisfit 39 = .ok (.iconst 1, 1) := by decide +kernel
theorem dX5_firstMisfit_40 : decode cX5_firstMisfit 40 = .ok (.iadd, 1) := by decide +kernel
theorem dX5_firstMisfit_41 : decode cX5_firstMisfit 41 = .ok (.istore_n 1, 1) := by decide +kernel
theorem dX5_firstMisfit_42 : decode cX5_firstMisfit 42 = .ok (.iinc 2 1, 3) := by decide +kernel
theorem dX5_firstMisfit_45 : decode cX5_firstMisfit 45 = .ok (.goto (-41), 3) := by decide +kernel
theorem dX5_firstMisfit_48 : decode cX5_firstMisfit 48 = .ok (.aload_n 0, 1) := by decide +kernel
theorem dX5_firstMisfit_49 : decode cX5_firstMisfit 49 = .ok (.iload_n 1, 1) := by decide +kernel
theorem dX5_firstMisfit_50 : decode cX5_firstMisfit 50 = .ok (.aload_n 0, 1) := by decide +kernel
theorem dX5_firstMisfit_51 : decode cX5_firstMisfit 51 = .ok (.getfield 15, 3) := by decide +kernel
theorem dX5_firstMisfit_54 : decode cX5_firstMisfit 54 = .ok (.invokevirtual 31, 3) := by decide +kernel
theorem dX5_firstMisfit_57 : decode cX5_firstMisfit 57 = .ok (.ireturn, 1) := by decide +kernel
theorem dX5_kindOf_0 : decode cX5_kindOf 0 = .ok (.getstatic 35, 3) := by decide +kernel
theorem dX5_kindOf_3 : decode cX5_kindOf 3 = .ok (.astore_n 3, 1) := by decide +kernel
theorem dX5_kindOf_4 : decode cX5_kindOf 4 = .ok (.aload_n 3, 1) := by decide +kernel
theorem dX5_kindOf_5 : decode cX5_kindOf 5 = .ok (.arraylength, 1) := by decide +kernel
theorem dX5_kindOf_6 : decode cX5_kindOf 6 = .ok (.istore 4, 2) := by decide +kernel
theorem dX5_kindOf_8 : decode cX5_kindOf 8 = .ok (.iconst 0, 1) := by decide +kernel
theorem dX5_kindOf_9 : decode cX5_kindOf 9 = .ok (.istore 5, 2) := by decide +kernel
theorem dX5_kindOf_11 : decode cX5_kindOf 11 = .ok (.iload 5, 2) := by decide +kernel
theorem dX5_kindOf_13 : decode cX5_kindOf 13 = .ok (.iload 4, 2) := by decide +kernel
theorem dX5_kindOf_15 : decode cX5_kindOf 15 = .ok (.if_icmp .ge 41, 3) := by decide +kernel
theorem dX5_kindOf_18 : decode cX5_kindOf 18 = .ok (.aload_n 3, 1) := by decide +kernel
theorem dX5_kindOf_19 : decode cX5_kindOf 19 = .ok (.iload 5, 2) := by decide +kernel
theorem dX5_kindOf_21 : decode cX5_kindOf 21 = .ok (.aaload, 1) := by decide +kernel
theorem dX5_kindOf_22 : decode cX5_kindOf 22 = .ok (.astore 6, 2) := by decide +kernel
theorem dX5_kindOf_24 : decode cX5_kindOf 24 = .ok (.iload_n 2, 1) := by decide +kernel
theorem dX5_kindOf_25 : decode cX5_kindOf 25 = .ok (.iload_n 1, 1) := by decide +kernel
theorem dX5_kindOf_26 : decode cX5_kindOf 26 = .ok (.isub, 1) := by decide +kernel
theorem dX5_kindOf_27 : decode cX5_kindOf 27 = .ok (.aload 6, 2) := by decide +kernel
theorem dX5_kindOf_29 : decode cX5_kindOf 29 = .ok (.getfield 39, 3) := by decide +kernel
theorem dX5_kindOf_32 : decode cX5_kindOf 32 = .ok (.if_icmp .lt 18, 3) := by decide +kernel
theorem dX5_kindOf_35 : decode cX5_kindOf 35 = .ok (.aload_n 0, 1) := by decide +kernel
theorem dX5_kindOf_36 : decode cX5_kindOf 36 = .ok (.aload 6, 2) := by decide +kernel
theorem dX5_kindOf_38 : decode cX5_kindOf 38 = .ok (.iload_n 1, 1) := by decide +kernel
theorem dX5_kindOf_39 : decode cX5_kindOf 39 = .ok (.iload_n 2, 1) := by decide +kernel
theorem dX5_kindOf_40 : decode cX5_kindOf 40 = .ok (.invokevirtual 44, 3) := by decide +kernel
theorem dX5_kindOf_43 : decode cX5_kindOf 43 = .ok (.iload_n 2, 1) := by decide +kernel
theorem dX5_kindOf_44 : decode cX5_kindOf 44 = .ok (.if_icmp .ne 6, 3) := by decide +kernel
theorem dX5_kindOf_47 : decode cX5_kindOf 47 = .ok (.aload 6, 2) := by decide +kernel
theorem dX5_kindOf_49 : decode cX5_kindOf 49 = .ok (.areturn, 1) := by decide +kernel
theorem dX5_kindOf_50 : decode cX5_kindOf 50 = .ok (.iinc 5 1, 3) := by decide +kernel
theorem dX5_kindOf_53 : decode cX5_kindOf 53 = .ok (.goto (-42), 3) := by decide +kernel
theorem dX5_kindOf_56 : decode cX5_kindOf 56 = .ok (.aconst_null, 1) := by decide +kernel
theorem dX5_kindOf_57 : decode cX5_kindOf 57 = .ok (.areturn, 1) := by decide +kernel
theorem dX5_firstMisfitOfPart_0 : decode cX5_firstMisfitOfPart 0 = .ok (.iload_n 1, 1) := by decide +kernel
theorem dX5_firstMisfitOfPart_1 : decode cX5_firstMisfitOfPart 1 = .ok (.istore_n 3, 1) := by decide +kernel
theorem dX5_firstMisfitOfPart_2 : decode cX5_firstMisfitOfPart 2 = .ok (.getstatic 35, 3) := by decide +kernel
theorem dX5_firstMisfitOfPart_5 : decode cX5_firstMisfitOfPart 5 = .ok (.astore 4, 2) := by decide +kernel
theorem dX5_firstMisfitOfPart_7 : decode cX5_firstMisfitOfPart 7 = .ok (.aload 4, 2) := by decide +kernel
theorem dX5_firstMisfitOfPart_9 : decode cX5_firstMisfitOfPart 9 = .ok (.arraylength, 1) := by decide +kernel
theorem dX5_firstMisfitOfPart_10 : decode cX5_firstMisfitOfPart 10 = .ok (.istore 5, 2) := by decide +kernel
theorem dX5_firstMisfitOfPart_12 : decode cX5_firstMisfitOfPart 12 = .ok (.iconst 0, 1) := by decide +kernel
theorem dX5_firstMisfitOfPart_13 : decode cX5_firstMisfitOfPart 13 = .ok (.istore 6, 2) := by decide +kernel
theorem dX5_firstMisfitOfPart_15 : decode cX5_firstMisfitOfPart 15 = .ok (.iload 6, 2) := by decide +kernel
theorem dX5_firstMisfitOfPart_17 : decode cX5_firstMisfitOfPart 17 = .ok (.iload 5, 2) := by decide +kernel
theorem dX5_firstMisfitOfPart_19 : decode cX5_firstMisfitOfPart 19 = .ok (.if_icmp .ge 29, 3) := by decide +kernel
theorem dX5_firstMisfitOfPart_22 : decode cX5_firstMisfitOfPart 22 = .ok (.aload 4, 2) := by decide +kernel
theorem dX5_firstMisfitOfPart_24 : decode cX5_firstMisfitOfPart 24 = .ok (.iload 6, 2) := by decide +kernel
theorem dX5_firstMisfitOfPart_26 : decode cX5_firstMisfitOfPart 26 = .ok (.aaload, 1) := by decide +kernel
theorem dX5_firstMisfitOfPart_27 : decode cX5_firstMisfitOfPart 27 = .ok (.astore 7, 2) := by decide +kernel
theorem dX5_firstMisfitOfPart_29 : decode cX5_firstMisfitOfPart 29 = .ok (.iload_n 3, 1) := by decide +kernel
theorem dX5_firstMisfitOfPart_30 : decode cX5_firstMisfitOfPart 30 = .ok (.aload_n 0, 1) := by decide +kernel
theorem dX5_firstMisfitOfPart_31 : decode cX5_firstMisfitOfPart 31 = .ok (.aload 7, 2) := by decide +kernel
theorem dX5_firstMisfitOfPart_33 : decode cX5_firstMisfitOfPart 33 = .ok (.iload_n 1, 1) := by decide +kernel
theorem dX5_firstMisfitOfPart_34 : decode cX5_firstMisfitOfPart 34 = .ok (.iload_n 2, 1) := by decide +kernel
theorem dX5_firstMisfitOfPart_35 : decode cX5_firstMisfitOfPart 35 = .ok (.invokevirtual 44, 3) := by decide +kernel
theorem dX5_firstMisfitOfPart_38 : decode cX5_firstMisfitOfPart 38 = .ok (.invokestatic 48, 3) := by decide +kernel
theorem dX5_firstMisfitOfPart_41 : decode cX5_firstMisfitOfPart 41 = .ok (.istore_n 3, 1) := by decide +kernel
theorem dX5_firstMisfitOfPart_42 : decode cX5_firstMisfitOfPart 42 = .ok (.iinc 6 1, 3) := by decide +kernel
theorem dX5_firstMisfitOfPart_45 : decode cX5_firstMisfitOfPart 45 = .ok (.goto (-30), 3) := by decide +kernel
theorem dX5_firstMisfitOfPart_48 : decode cX5_firstMisfitOfPart 48 = .ok (.iload_n 3, 1) := by decide +kernel
theorem dX5_firstMisfitOfPart_49 : decode cX5_firstMisfitOfPart 49 = .ok (.ireturn, 1) := by decide +kernel
theorem dX5_firstMisfitFor_0 : decode cX5_firstMisfitFor 0 = .ok (.aload_n 1, 1) := by decide +kernel
theorem dX5_firstMisfitFor_1 : decode cX5_firstMisfitFor 1 = .ok (.getfield 53, 3) := by decide +kernel
theorem dX5_firstMisfitFor_4 : decode cX5_firstMisfitFor 4 = .ok (.invokevirtual 57, 3) := by decide +kernel
theorem dX5_firstMisfitFor_7 : decode cX5_firstMisfitFor 7 = .ok (.istore 4, 2) := by decide +kernel
theorem dX5_firstMisfitFor_9 : decode cX5_firstMisfitFor 9 = .ok (.iconst 0, 1) := by decide +kernel
theorem dX5_firstMisfitFor_10 : decode cX5_firstMisfitFor 10 = .ok (.istore 5, 2) := by decide +kernel
theorem dX5_firstMisfitFor_12 : decode cX5_firstMisfitFor 12 = .ok (.iload 5, 2) := by decide +kernel
theorem dX5_firstMisfitFor_14 : decode cX5_firstMisfitFor 14 = .ok (.iload 4, 2) := by decide +kernel
theorem dX5_firstMisfitFor_16 : decode cX5_firstMisfitFor 16 = .ok (.if_icmp .ge 42, 3) := by decide +kernel
theorem dX5_firstMisfitFor_19 : decode cX5_firstMisfitFor 19 = .ok (.iload_n 2, 1) := by decide +kernel
theorem dX5_firstMisfitFor_20 : decode cX5_firstMisfitFor 20 = .ok (.iload 5, 2) := by decide +kernel
theorem dX5_firstMisfitFor_22 : decode cX5_firstMisfitFor 22 = .ok (.iadd, 1) := by decide +kernel
theorem dX5_firstMisfitFor_23 : decode cX5_firstMisfitFor 23 = .ok (.iload_n 3, 1) := by decide +kernel
theorem dX5_firstMisfitFor_24 : decode cX5_firstMisfitFor 24 = .ok (.if_icmp .ge 23, 3) := by decide +kernel
theorem dX5_firstMisfitFor_27 : decode cX5_firstMisfitFor 27 = .ok (.aload_n 0, 1) := by decide +kernel
theorem dX5_firstMisfitFor_28 : decode cX5_firstMisfitFor 28 = .ok (.iload_n 2, 1) := by decide +kernel
theorem dX5_firstMisfitFor_29 : decode cX5_firstMisfitFor 29 = .ok (.iload 5, 2) := by decide +kernel
theorem dX5_firstMisfitFor_31 : decode cX5_firstMisfitFor 31 = .ok (.iadd, 1) := by decide +kernel
theorem dX5_firstMisfitFor_32 : decode cX5_firstMisfitFor 32 = .ok (.invokevirtual 19, 3) := by decide +kernel
theorem dX5_firstMisfitFor_35 : decode cX5_firstMisfitFor 35 = .ok (.aload_n 1, 1) := by decide +kernel
theorem dX5_firstMisfitFor_36 : decode cX5_firstMisfitFor 36 = .ok (.getfield 53, 3) := by decide +kernel
theorem dX5_firstMisfitFor_39 : decode cX5_firstMisfitFor 39 = .ok (.iload 5, 2) := by decide +kernel
theorem dX5_firstMisfitFor_41 : decode cX5_firstMisfitFor 41 = .ok (.invokevirtual 62, 3) := by decide +kernel
theorem dX5_firstMisfitFor_44 : decode cX5_firstMisfitFor 44 = .ok (.if_icmp .eq 8, 3) := by decide +kernel
theorem dX5_firstMisfitFor_47 : decode cX5_firstMisfitFor 47 = .ok (.iload_n 2, 1) := by decide +kernel
theorem dX5_firstMisfitFor_48 : decode cX5_firstMisfitFor 48 = .ok (.iload 5, 2) := by decide +kernel
theorem dX5_firstMisfitFor_50 : decode cX5_firstMisfitFor 50 = .ok (.iadd, 1) := by decide +kernel
theorem dX5_firstMisfitFor_51 : decode cX5_firstMisfitFor 51 = .ok (.ireturn, 1) := by decide +kernel
theorem dX5_firstMisfitFor_52 : decode cX5_firstMisfitFor 52 = .ok (.iinc 5 1, 3) := by decide +kernel
theorem dX5_firstMisfitFor_55 : decode cX5_firstMisfitFor 55 = .ok (.goto (-43), 3) := by decide +kernel
theorem dX5_firstMisfitFor_58 : decode cX5_firstMisfitFor 58 = .ok (.iload_n 2, 1) := by decide +kernel
theorem dX5_firstMisfitFor_59 : decode cX5_firstMisfitFor 59 = .ok (.iload 4, 2) := by decide +kernel
theorem dX5_firstMisfitFor_61 : decode cX5_firstMisfitFor 61 = .ok (.iadd, 1) := by decide +kernel
theorem dX5_firstMisfitFor_62 : decode cX5_firstMisfitFor 62 = .ok (.istore 5, 2) := by decide +kernel
theorem dX5_firstMisfitFor_64 : decode cX5_firstMisfitFor 64 = .ok (.aload_n 1, 1) := by decide +kernel
theorem dX5_firstMisfitFor_65 : decode cX5_firstMisfitFor 65 = .ok (.getfield 66, 3) := by decide +kernel
theorem dX5_firstMisfitFor_68 : decode cX5_firstMisfitFor 68 = .ok (.ifCond .le 14, 3) := by decide +kernel
theorem dX5_firstMisfitFor_71 : decode cX5_firstMisfitFor 71 = .ok (.aload_n 0, 1) := by decide +kernel
theorem dX5_firstMisfitFor_72 : decode cX5_firstMisfitFor 72 = .ok (.aload_n 1, 1) := by decide +kernel
theorem dX5_firstMisfitFor_73 : decode cX5_firstMisfitFor 73 = .ok (.iload 5, 2) := by decide +kernel
theorem dX5_firstMisfitFor_75 : decode cX5_firstMisfitFor 75 = .ok (.iload_n 3, 1) := by decide +kernel
theorem dX5_firstMisfitFor_76 : decode cX5_firstMisfitFor 76 = .ok (.invokevirtual 69, 3) := by decide +kernel
theorem dX5_firstMisfitFor_79 : decode cX5_firstMisfitFor 79 = .ok (.goto 11, 3) := by decide +kernel
theorem dX5_firstMisfitFor_82 : decode cX5_firstMisfitFor 82 = .ok (.aload_n 0, 1) := by decide +kernel
theorem dX5_firstMisfitFor_83 : decode cX5_firstMisfitFor 83 = .ok (.aload_n 1, 1) := by decide +kernel
theorem dX5_firstMisfitFor_84 : decode cX5_firstMisfitFor 84 = .ok (.iload 5, 2) := by decide +kernel
theorem dX5_firstMisfitFor_86 : decode cX5_firstMisfitFor 86 = .ok (.iload_n 3, 1) := by decide +kernel
theorem dX5_firstMisfitFor_87 : decode cX5_firstMisfitFor 87 = .ok (.invokevirtual 72, 3) := by decide +kernel
theorem dX5_firstMisfitFor_90 : decode cX5_firstMisfitFor 90 = .ok (.ireturn, 1) := by decide +kernel
theorem dX5_firstNoLetter_0 : decode cX5_firstNoLetter 0 = .ok (.iload_n 2, 1) := by decide +kernel
theorem dX5_firstNoLetter_1 : decode cX5_firstNoLetter 1 = .ok (.istore 4, 2) := by decide +kernel
theorem dX5_firstNoLetter_3 : decode cX5_firstNoLetter 3 = .ok (.iload 4, 2) := by decide +kernel
theorem dX5_firstNoLetter_5 : decode cX5_firstNoLetter 5 = .ok (.iload_n 3, 1) := by decide +kernel
theorem dX5_firstNoLetter_6 : decode cX5_firstNoLetter 6 = .ok (.if_icmp .ge 35, 3) := by decide +kernel
theorem dX5_firstNoLetter_9 : decode cX5_firstNoLetter 9 = .ok (.iload 4, 2) := by decide +kernel
theorem dX5_firstNoLetter_11 : decode cX5_firstNoLetter 11 = .ok (.iload_n 2, 1) := by decide +kernel
theorem dX5_firstNoLetter_12 : decode cX5_firstNoLetter 12 = .ok (.isub, 1) := by decide +kernel
theorem dX5_firstNoLetter_13 : decode cX5_firstNoLetter 13 = .ok (.aload_n 1, 1) := by decide +kernel
theorem dX5_firstNoLetter_14 : decode cX5_firstNoLetter 14 = .ok (.getfield 66, 3) := by decide +kernel
theorem dX5_firstNoLetter_17 : decode cX5_firstNoLetter 17 = .ok (.if_icmp .ge 15, 3) := by decide +kernel
theorem dX5_firstNoLetter_20 : decode cX5_firstNoLetter 20 = .ok (.aload_n 0, 1) := by decide +kernel
theorem dX5_firstNoLetter_21 : decode cX5_firstNoLetter 21 = .ok (.iload 4, 2) := by decide +kernel
theorem dX5_firstNoLetter_23 : decode cX5_firstNoLetter 23 = .ok (.invokevirtual 75, 3) := by decide +kernel
theorem dX5_firstNoLetter_26 : decode cX5_firstNoLetter 26 = .ok (.invokestatic 78, 3) := by decide +kernel
theorem dX5_firstNoLetter_29 : decode cX5_firstNoLetter 29 = .ok (.ifCond .ne 6, 3) := by decide +kernel
theorem dX5_firstNoLetter_32 : decode cX5_firstNoLetter 32 = .ok (.iload 4, 2) := by decide +kernel
theorem dX5_firstNoLetter_34 : decode cX5_firstNoLetter 34 = .ok (.ireturn, 1) := by decide +kernel
theorem dX5_firstNoLetter_35 : decode cX5_firstNoLetter 35 = .ok (.iinc 4 1, 3) := by decide +kernel
theorem dX5_firstNoLetter_38 : decode cX5_firstNoLetter 38 = .ok (.goto (-35), 3) := by decide +kernel
theorem dX5_firstNoLetter_41 : decode cX5_firstNoLetter 41 = .ok (.iload_n 3, 1) := by decide +kernel
theorem dX5_firstNoLetter_42 : decode cX5_firstNoLetter 42 = .ok (.ireturn, 1) := by decide +kernel
theorem dX5_firstNoDigit_0 : decode cX5_firstNoDigit 0 = .ok (.iconst 0, 1) := by decide +kernel
theorem dX5_firstNoDigit_1 : decode cX5_firstNoDigit 1 = .ok (.istore 4, 2) := by decide +kernel
theorem dX5_firstNoDigit_3 : decode cX5_firstNoDigit 3 = .ok (.iload_n 2, 1) := by decide +kernel
theorem dX5_firstNoDigit_4 : decode cX5_firstNoDigit 4 = .ok (.istore 5, 2) := by decide +kernel
theorem dX5_firstNoDigit_6 : decode cX5_firstNoDigit 6 = .ok (.iload 5, 2) := by decide +kernel
theorem dX5_firstNoDigit_8 : decode cX5_firstNoDigit 8 = .ok (.iload_n 3, 1) := by decide +kernel
theorem dX5_firstNoDigit_9 : decode cX5_firstNoDigit 9 = .ok (.if_icmp .ge 89, 3) := by decide +kernel
theorem dX5_firstNoDigit_12 : decode cX5_firstNoDigit 12 = .ok (.aload_n 0, 1) := by decide +kernel
theorem dX5_firstNoDigit_13 : decode cX5_firstNoDigit 13 = .ok (.iload 5, 2) := by decide +kernel
theorem dX5_firstNoDigit_15 : decode cX5_firstNoDigit 15 = .ok (.invokevirtual 19, 3) := by decide +kernel
theorem dX5_firstNoDigit_18 : decode cX5_firstNoDigit 18 = .ok (.bipush 48, 2) := by decide +kernel
theorem dX5_firstNoDigit_20 : decode cX5_firstNoDigit 20 = .ok (.isub, 1) := by decide +kernel
theorem dX5_firstNoDigit_21 : decode cX5_firstNoDigit 21 = .ok (.istore 6, 2) := by decide +kernel
theorem dX5_firstNoDigit_23 : decode cX5_firstNoDigit 23 = .ok (.iload 5, 2) := by decide +kernel
theorem dX5_firstNoDigit_25 : decode cX5_firstNoDigit 25 = .ok (.iload_n 2, 1) := by decide +kernel
theorem dX5_firstNoDigit_26 : decode cX5_firstNoDigit 26 = .ok (.if_icmp .le 12, 3) := by decide +kernel
theorem dX5_firstNoDigit_29 : decode cX5_firstNoDigit 29 = .ok (.iload 4, 2) := by decide +kernel
theorem dX5_firstNoDigit_31 : decode cX5_firstNoDigit 31 = .ok (.ifCond .ne 7, 3) := by decide +kernel
theorem dX5_firstNoDigit_34 : decode cX5_firstNoDigit 34 = .ok (.iconst 1, 1) := by decide +kernel
theorem dX5_firstNoDigit_35 : decode cX5_firstNoDigit 35 = .ok (.goto 4, 3) := by decide +kernel
theorem dX5_firstNoDigit_38 : decode cX5_firstNoDigit 38 = .ok (.iconst 0, 1) := by decide +kernel
theorem dX5_firstNoDigit_39 : decode cX5_firstNoDigit 39 = .ok (.istore 7, 2) := by decide +kernel
theorem dX5_firstNoDigit_41 : decode cX5_firstNoDigit 41 = .ok (.iload 6, 2) := by decide +kernel
theorem dX5_firstNoDigit_43 : decode cX5_firstNoDigit 43 = .ok (.ifCond .lt 15, 3) := by decide +kernel
theorem dX5_firstNoDigit_46 : decode cX5_firstNoDigit 46 = .ok (.iload 6, 2) := by decide +kernel
theorem dX5_firstNoDigit_48 : decode cX5_firstNoDigit 48 = .ok (.bipush 9, 2) := by decide +kernel
theorem dX5_firstNoDigit_50 : decode cX5_firstNoDigit 50 = .ok (.if_icmp .gt 8, 3) := by decide +kernel
theorem dX5_firstNoDigit_53 : decode cX5_firstNoDigit 53 = .ok (.iload 7, 2) := by decide +kernel
theorem dX5_firstNoDigit_55 : decode cX5_firstNoDigit 55 = .ok (.ifCond .eq 6, 3) := by decide +kernel
theorem dX5_firstNoDigit_58 : decode cX5_firstNoDigit 58 = .ok (.iload 5, 2) := by decide +kernel
theorem dX5_firstNoDigit_60 : decode cX5_firstNoDigit 60 = .ok (.ireturn, 1) := by decide +kernel
theorem dX5_firstNoDigit_61 : decode cX5_firstNoDigit 61 = .ok (.iload 4, 2) := by decide +kernel
theorem dX5_firstNoDigit_63 : decode cX5_firstNoDigit 63 = .ok (.bipush 10, 2) := by decide +kernel
theorem dX5_firstNoDigit_65 : decode cX5_firstNoDigit 65 = .ok (.imul, 1) := by decide +kernel
theorem dX5_firstNoDigit_66 : decode cX5_firstNoDigit 66 = .ok (.iload 6, 2) := by decide +kernel
theorem dX5_firstNoDigit_68 : decode cX5_firstNoDigit 68 = .ok (.iadd, 1) := by decide +kernel
theorem dX5_firstNoDigit_69 : decode cX5_firstNoDigit 69 = .ok (.istore 4, 2) := by decide +kernel
theorem dX5_firstNoDigit_71 : decode cX5_firstNoDigit 71 = .ok (.iload 4, 2) := by decide +kernel
theorem dX5_firstNoDigit_73 : decode cX5_firstNoDigit 73 = .ok (.aload_n 1, 1) := by decide +kernel
theorem dX5_firstNoDigit_74 : decode cX5_firstNoDigit 74 = .ok (.getfield 81, 3) := by decide +kernel
theorem dX5_firstNoDigit_77 : decode cX5_firstNoDigit 77 = .ok (.if_icmp .lt 12, 3) := by decide +kernel
theorem dX5_firstNoDigit_80 : decode cX5_firstNoDigit 80 = .ok (.iload 4, 2) := by decide +kernel
theorem dX5_firstNoDigit_82 : decode cX5_firstNoDigit 82 = .ok (.aload_n 1, 1) := by decide +kernel
theorem dX5_firstNoDigit_83 : decode cX5_firstNoDigit 83 = .ok (.getfield 84, 3) := by decide +kernel
theorem dX5_firstNoDigit_86 : decode cX5_firstNoDigit 86 = .ok (.if_icmp .le 6, 3) := by decide +kernel
theorem dX5_firstNoDigit_89 : decode cX5_firstNoDigit 89 = .ok (.iload 5, 2) := by decide +kernel
theorem dX5_firstNoDigit_91 : decode cX5_firstNoDigit 91 = .ok (.ireturn, 1) := by decide +kernel
theorem dX5_firstNoDigit_92 : decode cX5_firstNoDigit 92 = .ok (.iinc 5 1, 3) := by decide +kernel
theorem dX5_firstNoDigit_95 : decode cX5_firstNoDigit 95 = .ok (.goto (-89), 3) := by decide +kernel
theorem dX5_firstNoDigit_98 : decode cX5_firstNoDigit 98 = .ok (.iload_n 3, 1) := by decide +kernel
theorem dX5_firstNoDigit_99 : decode cX5_firstNoDigit 99 = .ok (.ireturn, 1) := by decide +kernel
