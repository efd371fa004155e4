theorem dX4_init_0 : decode cX4_init 0 = .ok (.aload_n 0, 1) := by decide +kernel
theorem dX4_init_1 : decode cX4_init 1 = .ok (.invokespecial 1, 3) := by decide +kernel
theorem dX4_init_4 : decode cX4_init 4 = .ok (.aload_n 0, 1) := by decide +kernel
theorem dX4_init_5 : decode cX4_init 5 = .ok (.bipush 60, 2) := by decide +kernel
theorem dX4_init_7 : decode cX4_init 7 = .ok (.newarray .byte, 2) := by decide +kernel
theorem dX4_init_9 : decode cX4_init 9 = .ok (.putfield 7, 3) := by decide +kernel
theorem dX4_init_12 : decode cX4_init 12 = .ok (.aload_n 0, 1) := by decide +kernel
theorem dX4_init_13 : decode cX4_init 13 = .ok (.bipush 40, 2) := by decide +kernel
theorem dX4_init_15 : decode cX4_init 15 = .ok (.newarray .int, 2) := by decide +kernel
theorem dX4_init_17 : decode cX4_init 17 = .ok (.putfield 13, 3) := by decide +kernel
theorem dX4_init_20 : decode cX4_init 20 = .ok (.aload_n 0, 1) := by decide +kernel
theorem dX4_init_21 : decode cX4_init 21 = .ok (.bipush 40, 2) := by decide +kernel
theorem dX4_init_23 : decode cX4_init 23 = .ok (.newarray .int, 2) := by decide +kernel
theorem dX4_init_25 : decode cX4_init 25 = .ok (.putfield 17, 3) := by decide +kernel
theorem dX4_init_28 : decode cX4_init 28 = .ok (.aload_n 0, 1) := by decide +kernel
theorem dX4_init_29 : decode cX4_init 29 = .ok (.sipush 2400, 3) := by decide +kernel
theorem dX4_init_32 : decode cX4_init 32 = .ok (.newarray .int, 2) := by decide +kernel
theorem dX4_init_34 : decode cX4_init 34 = .ok (.putfield 20, 3) := by decide +kernel
theorem dX4_init_37 : decode cX4_init 37 = .ok (.aload_n 0, 1) := by decide +kernel
theorem dX4_init_38 : decode cX4_init 38 = .ok (.bipush 60, 2) := by decide +kernel
theorem dX4_init_40 : decode cX4_init 40 = .ok (.newarray .int, 2) := by decide +kernel
theorem dX4_init_42 : decode cX4_init 42 = .ok (.putfield 23, 3) := by decide +kernel
theorem dX4_init_45 : decode cX4_init 45 = .ok (.aload_n 0, 1) := by decide +kernel
theorem dX4_init_46 : decode cX4_init 46 = .ok (.bipush 40, 2) := by decide +kernel
theorem dX4_init_48 : decode cX4_init 48 = .ok (.newarray .int, 2) := by decide +kernel
theorem dX4_init_50 : decode cX4_init 50 = .ok (.putfield 26, 3) := by decide +kernel
theorem dX4_init_53 : decode cX4_init 53 = .ok (.aload_n 0, 1) := by decide +kernel
theorem dX4_init_54 : decode cX4_init 54 = .ok (.iload_n 1, 1) := by decide +kernel
theorem dX4_init_55 : decode cX4_init 55 = .ok (.iconst 1, 1) := by decide +kernel
theorem dX4_init_56 : decode cX4_init 56 = .ok (.if_icmp .ge 7, 3) := by decide +kernel
theorem dX4_init_59 : decode cX4_init 59 = .ok (.iconst 0, 1) := by decide +kernel
theorem dX4_init_60 : decode cX4_init 60 = .ok (.goto 4, 3) := by decide +kernel
theorem dX4_init_63 : decode cX4_init 63 = .ok (.iconst 1, 1) := by decide +kernel
theorem dX4_init_64 : decode cX4_init 64 = .ok (.putfield 29, 3) := by decide +kernel
theorem dX4_init_67 : decode cX4_init 67 = .ok (.return_, 1) := by decide +kernel
theorem dX4_thrown_0 : decode cX4_thrown 0 = .ok (.aload_n 0, 1) := by decide +kernel
theorem dX4_thrown_1 : decode cX4_thrown 1 = .ok (.getfield 33, 3) := by decide +kernel
theorem dX4_thrown_4 : decode cX4_thrown 4 = .ok (.ireturn, 1) := by decide +kernel
theorem dX4_sign_0 : decode cX4_sign 0 = .ok (.aload_n 0, 1) := by decide +kernel
theorem dX4_sign_1 : decode cX4_sign 1 = .ok (.iconst 0, 1) := by decide +kernel
theorem dX4_sign_2 : decode cX4_sign 2 = .ok (.putfield 33, 3) := by decide +kernel
theorem dX4_sign_5 : decode cX4_sign 5 = .ok (.aload_n 0, 1) := by decide +kernel
theorem dX4_sign_6 : decode cX4_sign 6 = .ok (.getfield 36, 3) := by decide +kernel
theorem dX4_sign_9 : decode cX4_sign 9 = .ok (.bipush 60, 2) := by decide +kernel
theorem dX4_sign_11 : decode cX4_sign 11 = .ok (.if_icmp .ge 24, 3) := by decide +kernel
theorem dX4_sign_14 : decode cX4_sign 14 = .ok (.aload_n 0, 1) := by decide +kernel
theorem dX4_sign_15 : decode cX4_sign 15 = .ok (.getfield 7, 3) := by decide +kernel
theorem dX4_sign_18 : decode cX4_sign 18 = .ok (.aload_n 0, 1) := by decide +kernel
theorem dX4_sign_19 : decode cX4_sign 19 = .ok (.getfield 36, 3) := by decide +kernel
theorem dX4_sign_22 : decode cX4_sign 22 = .ok (.iload_n 1, 1) := by decide +kernel
theorem dX4_sign_23 : decode cX4_sign 23 = .ok (.i2b, 1) := by decide +kernel
theorem dX4_sign_24 : decode cX4_sign 24 = .ok (.bastore, 1) := by decide +kernel
theorem dX4_sign_25 : decode cX4_sign 25 = .ok (.aload_n 0, 1) := by decide +kernel
theorem dX4_sign_26 : decode cX4_sign 26 = .ok (.dup, 1) := by decide +kernel
theorem dX4_sign_27 : decode cX4_sign 27 = .ok (.getfield 36, 3) := by decide +kernel
theorem dX4_sign_30 : decode cX4_sign 30 = .ok (.iconst 1, 1) := by decide +kernel
theorem dX4_sign_31 : decode cX4_sign 31 = .ok (.iadd, 1) := by decide +kernel
theorem dX4_sign_32 : decode cX4_sign 32 = .ok (.putfield 36, 3) := by decide +kernel
theorem dX4_sign_35 : decode cX4_sign 35 = .ok (.return_, 1) := by decide +kernel
theorem dX4_look_0 : decode cX4_look 0 = .ok (.aload_n 0, 1) := by decide +kernel
theorem dX4_look_1 : decode cX4_look 1 = .ok (.getfield 39, 3) := by decide +kernel
theorem dX4_look_4 : decode cX4_look 4 = .ok (.aload_n 0, 1) := by decide +kernel
theorem dX4_look_5 : decode cX4_look 5 = .ok (.getfield 36, 3) := by decide +kernel
theorem dX4_look_8 : decode cX4_look 8 = .ok (.if_icmp .ge 19, 3) := by decide +kernel
theorem dX4_look_11 : decode cX4_look 11 = .ok (.aload_n 0, 1) := by decide +kernel
theorem dX4_look_12 : decode cX4_look 12 = .ok (.getfield 7, 3) := by decide +kernel
theorem dX4_look_15 : decode cX4_look 15 = .ok (.aload_n 0, 1) := by decide +kernel
theorem dX4_look_16 : decode cX4_look 16 = .ok (.getfield 39, 3) := by decide +kernel
theorem dX4_look_19 : decode cX4_look 19 = .ok (.baload, 1) := by decide +kernel
theorem dX4_look_20 : decode cX4_look 20 = .ok (.sipush 255, 3) := by decide +kernel
theorem dX4_look_23 : decode cX4_look 23 = .ok (.iand, 1) := by decide +kernel
theorem dX4_look_24 : decode cX4_look 24 = .ok (.goto 4, 3) := by decide +kernel
theorem dX4_look_27 : decode cX4_look 27 = .ok (.iconst (-1), 1) := by decide +kernel
theorem dX4_look_28 : decode cX4_look 28 = .ok (.ireturn, 1) := by decide +kernel
theorem dX4_bad_0 : decode cX4_bad 0 = .ok (.aload_n 0, 1) := by decide +kernel
theorem dX4_bad_1 : decode cX4_bad 1 = .ok (.iload_n 1, 1) := by decide +kernel
theorem dX4_bad_2 : decode cX4_bad 2 = .ok (.putfield 42, 3) := by decide +kernel
theorem dX4_bad_5 : decode cX4_bad 5 = .ok (.iconst 0, 1) := by decide +kernel
theorem dX4_bad_6 : decode cX4_bad 6 = .ok (.ireturn, 1) := by decide +kernel
theorem dX4_isDigit_0 : decode cX4_isDigit 0 = .ok (.iload_n 0, 1) := by decide +kernel
theorem dX4_isDigit_1 : decode cX4_isDigit 1 = .ok (.bipush 48, 2) := by decide +kernel
theorem dX4_isDigit_3 : decode cX4_isDigit 3 = .ok (.if_icmp .lt 13, 3) := by decide +kernel
theorem dX4_isDigit_6 : decode cX4_isDigit 6 = .ok (.iload_n 0, 1) := by decide +kernel
theorem dX4_isDigit_7 : decode cX4_isDigit 7 = .ok (.bipush 57, 2) := by decide +kernel
theorem dX4_isDigit_9 : decode cX4_isDigit 9 = .ok (.if_icmp .gt 7, 3) := by decide +kernel
theorem dX4_isDigit_12 : decode cX4_isDigit 12 = .ok (.iconst 1, 1) := by decide +kernel
theorem dX4_isDigit_13 : decode cX4_isDigit 13 = .ok (.goto 4, 3) := by decide +kernel
theorem dX4_isDigit_16 : decode cX4_isDigit 16 = .ok (.iconst 0, 1) := by decide +kernel
theorem dX4_isDigit_17 : decode cX4_isDigit 17 = .ok (.ireturn, 1) := by decide +kernel
theorem dX4_isCapital_0 : decode cX4_isCapital 0 = .ok (.iload_n 0, 1) := by decide +kernel
theorem dX4_isCapital_1 : decode cX4_isCapital 1 = .ok (.bipush 65, 2) := by decide +kernel
theorem dX4_isCapital_3 : decode cX4_isCapital 3 = .ok (.if_icmp .lt 13, 3) := by decide +kernel
theorem dX4_isCapital_6 : decode cX4_isCapital 6 = .ok (.iload_n 0, 1) := by decide +kernel
theorem dX4_isCapital_7 : decode cX4_isCapital 7 = .ok (.bipush 90, 2) := by decide +kernel
theorem dX4_isCapital_9 : decode cX4_isCapital 9 = .ok (.if_icmp .gt 7, 3) := by decide +kernel
theorem dX4_isCapital_12 : decode cX4_isCapital 12 = .ok (.iconst 1, 1) := by decide +kernel
theorem dX4_isCapital_13 : decode cX4_isCapital 13 = .ok (.goto 4, 3) := by decide +kernel
theorem dX4_isCapital_16 : decode cX4_isCapital 16 = .ok (.iconst 0, 1) := by decide +kernel
theorem dX4_isCapital_17 : decode cX4_isCapital 17 = .ok (.ireturn, 1) := by decide +kernel
theorem dX4_isSmall_0 : decode cX4_isSmall 0 = .ok (.iload_n 0, 1) := by decide +kernel
theorem dX4_isSmall_1 : decode cX4_isSmall 1 = .ok (.bipush 97, 2) := by decide +kernel
theorem dX4_isSmall_3 : decode cX4_isSmall 3 = .ok (.if_icmp .lt 13, 3) := by decide +kernel
theorem dX4_isSmall_6 : decode cX4_isSmall 6 = .ok (.iload_n 0, 1) := by decide +kernel
theorem dX4_isSmall_7 : decode cX4_isSmall 7 = .ok (.bipush 122, 2) := by decide +kernel
theorem dX4_isSmall_9 : decode cX4_isSmall 9 = .ok (.if_icmp .gt 7, 3) := by decide +kernel
theorem dX4_isSmall_12 : decode cX4_isSmall 12 = .ok (.iconst 1, 1) := by decide +kernel
theorem dX4_isSmall_13 : decode cX4_isSmall 13 = .ok (.goto 4, 3) := by decide +kernel
theorem dX4_isSmall_16 : decode cX4_isSmall 16 = .ok (.iconst 0, 1) := by decide +kernel
theorem dX4_isSmall_17 : decode cX4_isSmall 17 = .ok (.ireturn, 1) := by decide +kernel
theorem dX4_digits_0 : decode cX4_digits 0 = .ok (.iconst 0, 1) := by decide +kernel
theorem dX4_digits_1 : decode cX4_digits 1 = .ok (.istore_n 3, 1) := by decide +kernel
theorem dX4_digits_2 : decode cX4_digits 2 = .ok (.aload_n 0, 1) := by decide +kernel
theorem dX4_digits_3 : decode cX4_digits 3 = .ok (.invokevirtual 45, 3) := by decide +kernel
theorem dX4_digits_6 : decode cX4_digits 6 = .ok (.invokestatic 49, 3) := by decide +kernel
theorem dX4_digits_9 : decode cX4_digits 9 = .ok (.ifCond .eq 48, 3) := by decide +kernel
theorem dX4_digits_12 : decode cX4_digits 12 = .ok (.iload_n 3, 1) := by decide +kernel
theorem dX4_digits_13 : decode cX4_digits 13 = .ok (.iload_n 2, 1) := by decide +kernel
theorem dX4_digits_14 : decode cX4_digits 14 = .ok (.if_icmp .ne 12, 3) := by decide +kernel
theorem dX4_digits_17 : decode cX4_digits 17 = .ok (.aload_n 0, 1) := by decide +kernel
theorem dX4_digits_18 : decode cX4_digits 18 = .ok (.aload_n 0, 1) := by decide +kernel
theorem dX4_digits_19 : decode cX4_digits 19 = .ok (.getfield 39, 3) := by decide +kernel
theorem dX4_digits_22 : decode cX4_digits 22 = .ok (.invokevirtual 53, 3) := by decide +kernel
theorem dX4_digits_25 : decode cX4_digits 25 = .ok (.ireturn, 1) := by decide +kernel
theorem dX4_digits_26 : decode cX4_digits 26 = .ok (.aload_n 0, 1) := by decide +kernel
theorem dX4_digits_27 : decode cX4_digits 27 = .ok (.getfield 13, 3) := by decide +kernel
theorem dX4_digits_30 : decode cX4_digits 30 = .ok (.iload_n 1, 1) := by decide +kernel
theorem dX4_digits_31 : decode cX4_digits 31 = .ok (.iload_n 3, 1) := by decide +kernel
theorem dX4_digits_32 : decode cX4_digits 32 = .ok (.iadd, 1) := by decide +kernel
theorem dX4_digits_33 : decode cX4_digits 33 = .ok (.aload_n 0, 1) := by decide +kernel
theorem dX4_digits_34 : decode cX4_digits 34 = .ok (.invokevirtual 45, 3) := by decide +kernel
theorem dX4_digits_37 : decode cX4_digits 37 = .ok (.bipush 47, 2) := by decide +kernel
theorem dX4_digits_39 : decode cX4_digits 39 = .ok (.isub, 1) := by decide +kernel
theorem dX4_digits_40 : decode cX4_digits 40 = .ok (.iastore, 1) := by decide +kernel
theorem dX4_digits_41 : decode cX4_digits 41 = .ok (.iinc 3 1, 3) := by decide +kernel
theorem dX4_digits_44 : decode cX4_digits 44 = .ok (.aload_n 0, 1) := by decide +kernel
theorem dX4_digits_45 : decode cX4_digits 45 = .ok (.dup, 1) := by decide +kernel
theorem dX4_digits_46 : decode cX4_digits 46 = .ok (.getfield 39, 3) := by decide +kernel
theorem dX4_digits_49 : decode cX4_digits 49 = .ok (.iconst 1, 1) := by decide +kernel
theorem dX4_digits_50 : decode cX4_digits 50 = .ok (.iadd, 1) := by decide +kernel
theorem dX4_digits_51 : decode cX4_digits 51 = .ok (.putfield 39, 3) := by decide +kernel
theorem dX4_digits_54 : decode cX4_digits 54 = .ok (.goto (-52), 3) := by decide +kernel
theorem dX4_digits_57 : decode cX4_digits 57 = .ok (.iload_n 3, 1) := by decide +kernel
theorem dX4_digits_58 : decode cX4_digits 58 = .ok (.ifCond .ne 12, 3) := by decide +kernel
theorem dX4_digits_61 : decode cX4_digits 61 = .ok (.aload_n 0, 1) := by decide +kernel
theorem dX4_digits_62 : decode cX4_digits 62 = .ok (.aload_n 0, 1) := by decide +kernel
theorem dX4_digits_63 : decode cX4_digits 63 = .ok (.getfield 39, 3) := by decide +kernel
theorem dX4_digits_66 : decode cX4_digits 66 = .ok (.invokevirtual 53, 3) := by decide +kernel
theorem dX4_digits_69 : decode cX4_digits 69 = .ok (.ireturn, 1) := by decide +kernel
theorem dX4_digits_70 : decode cX4_digits 70 = .ok (.aload_n 0, 1) := by decide +kernel
theorem dX4_digits_71 : decode cX4_digits 71 = .ok (.getfield 13, 3) := by decide +kernel
theorem dX4_digits_74 : decode cX4_digits 74 = .ok (.iload_n 1, 1) := by decide +kernel
theorem dX4_digits_75 : decode cX4_digits 75 = .ok (.iload_n 3, 1) := by decide +kernel
theorem dX4_digits_76 : decode cX4_digits 76 = .ok (.iadd, 1) := by decide +kernel
theorem dX4_digits_77 : decode cX4_digits 77 = .ok (.iconst 1, 1) := by decide +kernel
theorem dX4_digits_78 : decode cX4_digits 78 = .ok (.isub, 1) := by decide +kernel
theorem dX4_digits_79 : decode cX4_digits 79 = .ok (.iaload, 1) := by decide +kernel
theorem dX4_digits_80 : decode cX4_digits 80 = .ok (.iconst 1, 1) := by decide +kernel
theorem dX4_digits_81 : decode cX4_digits 81 = .ok (.if_icmp .ne 16, 3) := by decide +kernel
theorem dX4_digits_84 : decode cX4_digits 84 = .ok (.aload_n 0, 1) := by decide +kernel
theorem dX4_digits_85 : decode cX4_digits 85 = .ok (.aload_n 0, 1) := by decide +kernel
theorem dX4_digits_86 : decode cX4_digits 86 = .ok (.getfield 39, 3) := by decide +kernel
theorem dX4_digits_89 : decode cX4_digits 89 = .ok (.iconst 1, 1) := by decide +kernel
theorem dX4_digits_90 : decode cX4_digits 90 = .ok (.isub, 1) := by decide +kernel
theorem dX4_digits_91 : decode cX4_digits 91 = .ok (.invokevirtual 53, 3) := by decide +kernel
theorem dX4_digits_94 : decode cX4_digits 94 = .ok (.ifCond .eq 7, 3) := by decide +kernel
theorem dX4_digits_97 : decode cX4_digits 97 = .ok (.iconst 1, 1) := by decide +kernel
theorem dX4_digits_98 : decode cX4_digits 98 = .ok (.goto 4, 3) := by decide +kernel
theorem dX4_digits_101 : decode cX4_digits 101 = .ok (.iconst 0, 1) := by decide +kernel
theorem dX4_digits_102 : decode cX4_digits 102 = .ok (.ireturn, 1) := by decide +kernel
theorem dX4_number_0 : decode cX4_number 0 = .ok (.iconst 0, 1) := by decide +kernel
theorem dX4_number_1 : decode cX4_number 1 = .ok (.istore_n 3, 1) := by decide +kernel
theorem dX4_number_2 : decode cX4_number 2 = .ok (.iconst 0, 1) := by decide +kernel
theorem dX4_number_3 : decode cX4_number 3 = .ok (.istore 4, 2) := by decide +kernel
theorem dX4_number_5 : decode cX4_number 5 = .ok (.aload_n 0, 1) := by decide +kernel
theorem dX4_number_6 : decode cX4_number 6 = .ok (.invokevirtual 45, 3) := by decide +kernel
theorem dX4_number_9 : decode cX4_number 9 = .ok (.invokestatic 49, 3) := by decide +kernel
theorem dX4_number_12 : decode cX4_number 12 = .ok (.ifCond .eq 61, 3) := by decide +kernel
theorem dX4_number_15 : decode cX4_number 15 = .ok (.iload_n 3, 1) := by decide +kernel
theorem dX4_number_16 : decode cX4_number 16 = .ok (.iload_n 2, 1) := by decide +kernel
theorem dX4_number_17 : decode cX4_number 17 = .ok (.if_icmp .eq 16, 3) := by decide +kernel
theorem dX4_number_20 : decode cX4_number 20 = .ok (.iload_n 3, 1) := by decide +kernel
theorem dX4_number_21 : decode cX4_number 21 = .ok (.ifCond .ne 21, 3) := by decide +kernel
theorem dX4_number_24 : decode cX4_number 24 = .ok (.aload_n 0, 1) := by decide +kernel
theorem dX4_number_25 : decode cX4_number 25 = .ok (.invokevirtual 45, 3) := by decide +kernel
theorem dX4_number_28 : decode cX4_number 28 = .ok (.bipush 48, 2) := by decide +kernel
theorem dX4_number_30 : decode cX4_number 30 = .ok (.if_icmp .ne 12, 3) := by decide +kernel
theorem dX4_number_33 : decode cX4_number 33 = .ok (.aload_n 0, 1) := by decide +kernel
theorem dX4_number_34 : decode cX4_number 34 = .ok (.aload_n 0, 1) := by decide +kernel
theorem dX4_number_35 : decode cX4_number 35 = .ok (.getfield 39, 3) := by decide +kernel
theorem dX4_number_38 : decode cX4_number 38 = .ok (.invokevirtual 53, 3) := by decide +kernel
theorem dX4_number_41 : decode cX4_number 41 = .ok (.ireturn, 1) := by decide +kernel
theorem dX4_number_42 : decode cX4_number 42 = .ok (.bipush 10, 2) := by decide +kernel
theorem dX4_number_44 : decode cX4_number 44 = .ok (.iload 4, 2) := by decide +kernel
theorem dX4_number_46 : decode cX4_number 46 = .ok (.imul, 1) := by decide +kernel
theorem dX4_number_47 : decode cX4_number 47 = .ok (.aload_n 0, 1) := by decide +kernel
theorem dX4_number_48 : decode cX4_number 48 = .ok (.invokevirtual 45, 3) := by decide +kernel
theorem dX4_number_51 : decode cX4_number 51 = .ok (.iadd, 1) := by decide +kernel
theorem dX4_number_52 : decode cX4_number 52 = .ok (.bipush 48, 2) := by decide +kernel
theorem dX4_number_54 : decode cX4_number 54 = .ok (.isub, 1) := by decide +kernel
theorem dX4_number_55 : decode cX4_number 55 = .ok (.istore 4, 2) := by decide +kernel
theorem dX4_number_57 : decode cX4_number 57 = .ok (.iinc 3 1, 3) := by decide +kernel
theorem dX4_number_60 : decode cX4_number 60 = .ok (.aload_n 0, 1) := by decide +kernel
theorem dX4_number_61 : decode cX4_number 61 = .ok (.dup, 1) := by decide +kernel
theorem dX4_number_62 : decode cX4_number 62 = .ok (.getfield 39, 3) := by decide +kernel
theorem dX4_number_65 : decode cX4_number 65 = .ok (.iconst 1, 1) := by decide +kernel
theorem dX4_number_66 : decode cX4_number 66 = .ok (.iadd, 1) := by decide +kernel
theorem dX4_number_67 : decode cX4_number 67 = .ok (.putfield 39, 3) := by decide +kernel
theorem dX4_number_70 : decode cX4_number 70 = .ok (.goto (-65), 3) := by decide +kernel
theorem dX4_number_73 : decode cX4_number 73 = .ok (.aload_n 0, 1) := by decide +kernel
theorem dX4_number_74 : decode cX4_number 74 = .ok (.getfield 13, 3) := by decide +kernel
theorem dX4_number_77 : decode cX4_number 77 = .ok (.iload_n 1, 1) := by decide +kernel
theorem dX4_number_78 : decode cX4_number 78 = .ok (.iload 4, 2) := by decide +kernel
theorem dX4_number_80 : decode cX4_number 80 = .ok (.iastore, 1) := by decide +kernel
theorem dX4_number_81 : decode cX4_number 81 = .ok (.iload_n 3, 1) := by decide +kernel
theorem dX4_number_82 : decode cX4_number 82 = .ok (.ifCond .gt 14, 3) := by decide +kernel
theorem dX4_number_85 : decode cX4_number 85 = .ok (.aload_n 0, 1) := by decide +kernel
theorem dX4_number_86 : decode cX4_number 86 = .ok (.aload_n 0, 1) := by decide +kernel
theorem dX4_number_87 : decode cX4_number 87 = .ok (.getfield 39, 3) := by decide +kernel
theorem dX4_number_90 : decode cX4_number 90 = .ok (.invokevirtual 53, 3) := by decide +kernel
theorem dX4_number_93 : decode cX4_number 93 = .ok (.ifCond .eq 7, 3) := by decide +kernel
theorem dX4_number_96 : decode cX4_number 96 = .ok (.iconst 1, 1) := by decide +kernel
theorem dX4_number_97 : decode cX4_number 97 = .ok (.goto 4, 3) := by decide +kernel
theorem dX4_number_100 : decode cX4_number 100 = .ok (.iconst 0, 1) := by decide +kernel
theorem dX4_number_101 : decode cX4_number 101 = .ok (.ireturn, 1) := by decide +kernel
theorem dX4_readClass_0 : decode cX4_readClass 0 = .ok (.aload_n 0, 1) := by decide +kernel
theorem dX4_readClass_1 : decode cX4_readClass 1 = .ok (.getfield 29, 3) := by decide +kernel
theorem dX4_readClass_4 : decode cX4_readClass 4 = .ok (.ifCond .ne 72, 3) := by decide +kernel
theorem dX4_readClass_7 : decode cX4_readClass 7 = .ok (.iconst 0, 1) := by decide +kernel
theorem dX4_readClass_8 : decode cX4_readClass 8 = .ok (.istore_n 1, 1) := by decide +kernel
theorem dX4_readClass_9 : decode cX4_readClass 9 = .ok (.iconst 0, 1) := by decide +kernel
theorem dX4_readClass_10 : decode cX4_readClass 10 = .ok (.istore_n 2, 1) := by decide +kernel
theorem dX4_readClass_11 : decode cX4_readClass 11 = .ok (.iload_n 2, 1) := by decide +kernel
theorem dX4_readClass_12 : decode cX4_readClass 12 = .ok (.iconst 3, 1) := by decide +kernel
theorem dX4_readClass_13 : decode cX4_readClass 13 = .ok (.if_icmp .ge 51, 3) := by decide +kernel
theorem dX4_readClass_16 : decode cX4_readClass 16 = .ok (.aload_n 0, 1) := by decide +kernel
theorem dX4_readClass_17 : decode cX4_readClass 17 = .ok (.invokevirtual 45, 3) := by decide +kernel
theorem dX4_readClass_20 : decode cX4_readClass 20 = .ok (.invokestatic 49, 3) := by decide +kernel
theorem dX4_readClass_23 : decode cX4_readClass 23 = .ok (.ifCond .ne 12, 3) := by decide +kernel
theorem dX4_readClass_26 : decode cX4_readClass 26 = .ok (.aload_n 0, 1) := by decide +kernel
theorem dX4_readClass_27 : decode cX4_readClass 27 = .ok (.aload_n 0, 1) := by decide +kernel
theorem dX4_readClass_28 : decode cX4_readClass 28 = .ok (.getfield 39, 3) := by decide +kernel
theorem dX4_readClass_31 : decode cX4_readClass 31 = .ok (.invokevirtual 53, 3) := by decide +kernel
theorem dX4_readClass_34 : decode cX4_readClass 34 = .ok (.ireturn, 1) := by decide +kernel
theorem dX4_readClass_35 : decode cX4_readClass 35 = .ok (.bipush 10, 2) := by decide +kernel
theorem dX4_readClass_37 : decode cX4_readClass 37 = .ok (.iload_n 1, 1) := by decide +kernel
theorem dX4_readClass_38 : decode cX4_readClass 38 = .ok (.imul, 1) := by decide +kernel
theorem dX4_readClass_39 : decode cX4_readClass 39 = .ok (.aload_n 0, 1) := by decide +kernel
theorem dX4_readClass_40 : decode cX4_readClass 40 = .ok (.invokevirtual 45, 3) := by decide +kernel
theorem dX4_readClass_43 : decode cX4_readClass 43 = .ok (.iadd, 1) := by decide +kernel
theorem dX4_readClass_44 : decode cX4_readClass 44 = .ok (.bipush 48, 2) := by decide +kernel
theorem dX4_readClass_46 : decode cX4_readClass 46 = .ok (.isub, 1) := by decide +kernel
theorem dX4_readClass_47 : decode cX4_readClass 47 = .ok (.istore_n 1, 1) := by decide +kernel
theorem dX4_readClass_48 : decode cX4_readClass 48 = .ok (.aload_n 0, 1) := by decide +kernel
theorem dX4_readClass_49 : decode cX4_readClass 49 = .ok (.dup, 1) := by decide +kernel
theorem dX4_readClass_50 : decode cX4_readClass 50 = .ok (.getfield 39, 3) := by decide +kernel
theorem dX4_readClass_53 : decode cX4_readClass 53 = .ok (.iconst 1, 1) := by decide +kernel
theorem dX4_readClass_54 : decode cX4_readClass 54 = .ok (.iadd, 1) := by decide +kernel
theorem dX4_readClass_55 : decode cX4_readClass 55 = .ok (.putfield 39, 3) := by decide +kernel
theorem dX4_readClass_58 : decode cX4_readClass 58 = .ok (.iinc 2 1, 3) := by decide +kernel
theorem dX4_readClass_61 : decode cX4_readClass 61 = .ok (.goto (-50), 3) := by decide +kernel
theorem dX4_readClass_64 : decode cX4_readClass 64 = .ok (.aload_n 0, 1) := by decide +kernel
theorem dX4_readClass_65 : decode cX4_readClass 65 = .ok (.getfield 13, 3) := by decide +kernel
theorem dX4_readClass_68 : decode cX4_readClass 68 = .ok (.iconst 3, 1) := by decide +kernel
theorem dX4_readClass_69 : decode cX4_readClass 69 = .ok (.iload_n 1, 1) := by decide +kernel
theorem dX4_readClass_70 : decode cX4_readClass 70 = .ok (.iconst 1, 1) := by decide +kernel
theorem dX4_readClass_71 : decode cX4_readClass 71 = .ok (.iadd, 1) := by decide +kernel
theorem dX4_readClass_72 : decode cX4_readClass 72 = .ok (.iastore, 1) := by decide +kernel
theorem dX4_readClass_73 : decode cX4_readClass 73 = .ok (.goto 85, 3) := by decide +kernel
theorem dX4_readClass_76 : decode cX4_readClass 76 = .ok (.iconst 0, 1) := by decide +kernel
theorem dX4_readClass_77 : decode cX4_readClass 77 = .ok (.istore_n 1, 1) := by decide +kernel
theorem dX4_readClass_78 : decode cX4_readClass 78 = .ok (.aload_n 0, 1) := by decide +kernel
theorem dX4_readClass_79 : decode cX4_readClass 79 = .ok (.invokevirtual 45, 3) := by decide +kernel
theorem dX4_readClass_82 : decode cX4_readClass 82 = .ok (.invokestatic 56, 3) := by decide +kernel
theorem dX4_readClass_85 : decode cX4_readClass 85 = .ok (.ifCond .eq 43, 3) := by decide +kernel
theorem dX4_readClass_88 : decode cX4_readClass 88 = .ok (.iload_n 1, 1) := by decide +kernel
theorem dX4_readClass_89 : decode cX4_readClass 89 = .ok (.iconst 3, 1) := by decide +kernel
theorem dX4_readClass_90 : decode cX4_readClass 90 = .ok (.if_icmp .ne 12, 3) := by decide +kernel
theorem dX4_readClass_93 : decode cX4_readClass 93 = .ok (.aload_n 0, 1) := by decide +kernel
theorem dX4_readClass_94 : decode cX4_readClass 94 = .ok (.aload_n 0, 1) := by decide +kernel
theorem dX4_readClass_95 : decode cX4_readClass 95 = .ok (.getfield 39, 3) := by decide +kernel
theorem dX4_readClass_98 : decode cX4_readClass 98 = .ok (.invokevirtual 53, 3) := by decide +kernel
theorem dX4_readClass_101 : decode cX4_readClass 101 = .ok (.ireturn, 1) := by decide +kernel
theorem dX4_readClass_102 : decode cX4_readClass 102 = .ok (.aload_n 0, 1) := by decide +kernel
theorem dX4_readClass_103 : decode cX4_readClass 103 = .ok (.getfield 13, 3) := by decide +kernel
theorem dX4_readClass_106 : decode cX4_readClass 106 = .ok (.iload_n 1, 1) := by decide +kernel
theorem dX4_readClass_107 : decode cX4_readClass 107 = .ok (.aload_n 0, 1) := by decide +kernel
theorem dX4_readClass_108 : decode cX4_readClass 108 = .ok (.invokevirtual 45, 3) := by decide +kernel
theorem dX4_readClass_111 : decode cX4_readClass 111 = .ok (.iastore, 1) := by decide +kernel
theorem dX4_readClass_112 : decode cX4_readClass 112 = .ok (.iinc 1 1, 3) := by decide +kernel
theorem dX4_readClass_115 : decode cX4_readClass 115 = .ok (.aload_n 0, 1) := by decide +kernel
theorem dX4_readClass_116 : decode cX4_readClass 116 = .ok (.dup, 1) := by decide +kernel
theorem dX4_readClass_117 : decode cX4_readClass 117 = .ok (.getfield 39, 3) := by decide +kernel
theorem dX4_readClass_120 : decode cX4_readClass 120 = .ok (.iconst 1, 1) := by decide +kernel
theorem dX4_readClass_121 : decode cX4_readClass 121 = .ok (.iadd, 1) := by decide +kernel
theorem dX4_readClass_122 : decode cX4_readClass 122 = .ok (.putfield 39, 3) := by decide +kernel
theorem dX4_readClass_125 : decode cX4_readClass 125 = .ok (.goto (-47), 3) := by decide +kernel
theorem dX4_readClass_128 : decode cX4_readClass 128 = .ok (.iload_n 1, 1) := by decide +kernel
theorem dX4_readClass_129 : decode cX4_readClass 129 = .ok (.ifCond .eq 12, 3) := by decide +kernel
theorem dX4_readClass_132 : decode cX4_readClass 132 = .ok (.aload_n 0, 1) := by decide +kernel
theorem dX4_readClass_133 : decode cX4_readClass 133 = .ok (.iconst 3, 1) := by decide +kernel
theorem dX4_readClass_134 : decode cX4_readClass 134 = .ok (.iconst 4, 1) := by decide +kernel
theorem dX4_readClass_135 : decode cX4_readClass 135 = .ok (.invokevirtual 59, 3) := by decide +kernel
theorem dX4_readClass_138 : decode cX4_readClass 138 = .ok (.ifCond .ne 20, 3) := by decide +kernel
theorem dX4_readClass_141 : decode cX4_readClass 141 = .ok (.iload_n 1, 1) := by decide +kernel
theorem dX4_readClass_142 : decode cX4_readClass 142 = .ok (.ifCond .le 7, 3) := by decide +kernel
theorem dX4_readClass_145 : decode cX4_readClass 145 = .ok (.iconst 0, 1) := by decide +kernel
theorem dX4_readClass_146 : decode cX4_readClass 146 = .ok (.goto 11, 3) := by decide +kernel
theorem dX4_readClass_149 : decode cX4_readClass 149 = .ok (.aload_n 0, 1) := by decide +kernel
theorem dX4_readClass_150 : decode cX4_readClass 150 = .ok (.aload_n 0, 1) := by decide +kernel
theorem dX4_readClass_151 : decode cX4_readClass 151 = .ok (.getfield 39, 3) := by decide +kernel
theorem dX4_readClass_154 : decode cX4_readClass 154 = .ok (.invokevirtual 53, 3) := by decide +kernel
theorem dX4_readClass_157 : decode cX4_readClass 157 = .ok (.ireturn, 1) := by decide +kernel
theorem dX4_readClass_158 : decode cX4_readClass 158 = .ok (.aload_n 0, 1) := by decide +kernel
theorem dX4_readClass_159 : decode cX4_readClass 159 = .ok (.invokevirtual 45, 3) := by decide +kernel
theorem dX4_readClass_162 : decode cX4_readClass 162 = .ok (.bipush 46, 2) := by decide +kernel
theorem dX4_readClass_164 : decode cX4_readClass 164 = .ok (.if_icmp .ne 36, 3) := by decide +kernel
theorem dX4_readClass_167 : decode cX4_readClass 167 = .ok (.aload_n 0, 1) := by decide +kernel
theorem dX4_readClass_168 : decode cX4_readClass 168 = .ok (.dup, 1) := by decide +kernel
theorem dX4_readClass_169 : decode cX4_readClass 169 = .ok (.getfield 39, 3) := by decide +kernel
theorem dX4_readClass_172 : decode cX4_readClass 172 = .ok (.iconst 1, 1) := by decide +kernel
theorem dX4_readClass_173 : decode cX4_readClass 173 = .ok (.iadd, 1) := by decide +kernel
theorem dX4_readClass_174 : decode cX4_readClass 174 = .ok (.putfield 39, 3) := by decide +kernel
theorem dX4_readClass_177 : decode cX4_readClass 177 = .ok (.aload_n 0, 1) := by decide +kernel
theorem dX4_readClass_178 : decode cX4_readClass 178 = .ok (.iconst 4, 1) := by decide +kernel
theorem dX4_readClass_179 : decode cX4_readClass 179 = .ok (.aload_n 0, 1) := by decide +kernel
theorem dX4_readClass_180 : decode cX4_readClass 180 = .ok (.getfield 29, 3) := by decide +kernel
theorem dX4_readClass_183 : decode cX4_readClass 183 = .ok (.ifCond .ne 8, 3) := by decide +kernel
theorem dX4_readClass_186 : decode cX4_readClass 186 = .ok (.bipush 9, 2) := by decide +kernel
theorem dX4_readClass_188 : decode cX4_readClass 188 = .ok (.goto 4, 3) := by decide +kernel
theorem dX4_readClass_191 : decode cX4_readClass 191 = .ok (.iconst 4, 1) := by decide +kernel
theorem dX4_readClass_192 : decode cX4_readClass 192 = .ok (.invokevirtual 63, 3) := by decide +kernel
theorem dX4_readClass_195 : decode cX4_readClass 195 = .ok (.ifCond .ne 5, 3) := by decide +kernel
theorem dX4_readClass_198 : decode cX4_readClass 198 = .ok (.iconst 0, 1) := by decide +kernel
theorem dX4_readClass_199 : decode cX4_readClass 199 = .ok (.ireturn, 1) := by decide +kernel
theorem dX4_readClass_200 : decode cX4_readClass 200 = .ok (.aload_n 0, 1) := by decide +kernel
theorem dX4_readClass_201 : decode cX4_readClass 201 = .ok (.getfield 13, 3) := by decide +kernel
theorem dX4_readClass_204 : decode cX4_readClass 204 = .ok (.bipush 37, 2) := by decide +kernel
theorem dX4_readClass_206 : decode cX4_readClass 206 = .ok (.aload_n 0, 1) := by decide +kernel
theorem dX4_readClass_207 : decode cX4_readClass 207 = .ok (.getfield 39, 3) := by decide +kernel
theorem dX4_readClass_210 : decode cX4_readClass 210 = .ok (.iastore, 1) := by decide +kernel
theorem dX4_readClass_211 : decode cX4_readClass 211 = .ok (.iconst 1, 1) := by decide +kernel
theorem dX4_readClass_212 : decode cX4_readClass 212 = .ok (.ireturn, 1) := by decide +kernel
theorem dX4_readCutter_0 : decode cX4_readCutter 0 = .ok (.aload_n 0, 1) := by decide +kernel
theorem dX4_readCutter_1 : decode cX4_readCutter 1 = .ok (.invokevirtual 45, 3) := by decide +kernel
theorem dX4_readCutter_4 : decode cX4_readCutter 4 = .ok (.invokestatic 56, 3) := by decide +kernel
theorem dX4_readCutter_7 : decode cX4_readCutter 7 = .ok (.ifCond .ne 12, 3) := by decide +kernel
theorem dX4_readCutter_10 : decode cX4_readCutter 10 = .ok (.aload_n 0, 1) := by decide +kernel
theorem dX4_readCutter_11 : decode cX4_readCutter 11 = .ok (.aload_n 0, 1) := by decide +kernel
theorem dX4_readCutter_12 : decode cX4_readCutter 12 = .ok (.getfield 39, 3) := by decide +kernel
theorem dX4_readCutter_15 : decode cX4_readCutter 15 = .ok (.invokevirtual 53, 3) := by decide +kernel
theorem dX4_readCutter_18 : decode cX4_readCutter 18 = .ok (.ireturn, 1) := by decide +kernel
theorem dX4_readCutter_19 : decode cX4_readCutter 19 = .ok (.aload_n 0, 1) := by decide +kernel
theorem dX4_readCutter_20 : decode cX4_readCutter 20 = .ok (.getfield 13, 3) := by decide +kernel
theorem dX4_readCutter_23 : decode cX4_readCutter 23 = .ok (.bipush 16, 2) := by decide +kernel
theorem dX4_readCutter_25 : decode cX4_readCutter 25 = .ok (.aload_n 0, 1) := by decide +kernel
theorem dX4_readCutter_26 : decode cX4_readCutter 26 = .ok (.invokevirtual 45, 3) := by decide +kernel
theorem dX4_readCutter_29 : decode cX4_readCutter 29 = .ok (.iastore, 1) := by decide +kernel
theorem dX4_readCutter_30 : decode cX4_readCutter 30 = .ok (.aload_n 0, 1) := by decide +kernel
theorem dX4_readCutter_31 : decode cX4_readCutter 31 = .ok (.dup, 1) := by decide +kernel
theorem dX4_readCutter_32 : decode cX4_readCutter 32 = .ok (.getfield 39, 3) := by decide +kernel
theorem dX4_readCutter_35 : decode cX4_readCutter 35 = .ok (.iconst 1, 1) := by decide +kernel
theorem dX4_readCutter_36 : decode cX4_readCutter 36 = .ok (.iadd, 1) := by decide +kernel
theorem dX4_readCutter_37 : decode cX4_readCutter 37 = .ok (.putfield 39, 3) := by decide +kernel
theorem dX4_readCutter_40 : decode cX4_readCutter 40 = .ok (.aload_n 0, 1) := by decide +kernel
theorem dX4_readCutter_41 : decode cX4_readCutter 41 = .ok (.bipush 17, 2) := by decide +kernel
theorem dX4_readCutter_43 : decode cX4_readCutter 43 = .ok (.bipush 6, 2) := by decide +kernel
theorem dX4_readCutter_45 : decode cX4_readCutter 45 = .ok (.invokevirtual 63, 3) := by decide +kernel
theorem dX4_readCutter_48 : decode cX4_readCutter 48 = .ok (.ireturn, 1) := by decide +kernel
theorem dX4_readYear_0 : decode cX4_readYear 0 = .ok (.iconst 0, 1) := by decide +kernel
theorem dX4_readYear_1 : decode cX4_readYear 1 = .ok (.istore_n 1, 1) := by decide +kernel
theorem dX4_readYear_2 : decode cX4_readYear 2 = .ok (.iconst 0, 1) := by decide +kernel
theorem dX4_readYear_3 : decode cX4_readYear 3 = .ok (.istore_n 2, 1) := by decide +kernel
theorem dX4_readYear_4 : decode cX4_readYear 4 = .ok (.iload_n 2, 1) := by decide +kernel
theorem dX4_readYear_5 : decode cX4_readYear 5 = .ok (.iconst 4, 1) := by decide +kernel
theorem dX4_readYear_6 : decode cX4_readYear 6 = .ok (.if_icmp .ge 64, 3) := by decide +kernel
theorem dX4_readYear_9 : decode cX4_readYear 9 = .ok (.aload_n 0, 1) := by decide +kernel
theorem dX4_readYear_10 : decode cX4_readYear 10 = .ok (.invokevirtual 45, 3) := by decide +kernel
theorem dX4_readYear_13 : decode cX4_readYear 13 = .ok (.invokestatic 49, 3) := by decide +kernel
theorem dX4_readYear_16 : decode cX4_readYear 16 = .ok (.ifCond .eq 16, 3) := by decide +kernel
theorem dX4_readYear_19 : decode cX4_readYear 19 = .ok (.iload_n 2, 1) := by decide +kernel
theorem dX4_readYear_20 : decode cX4_readYear 20 = .ok (.ifCond .ne 21, 3) := by decide +kernel
theorem dX4_readYear_23 : decode cX4_readYear 23 = .ok (.aload_n 0, 1) := by decide +kernel
theorem dX4_readYear_24 : decode cX4_readYear 24 = .ok (.invokevirtual 45, 3) := by decide +kernel
theorem dX4_readYear_27 : decode cX4_readYear 27 = .ok (.bipush 48, 2) := by decide +kernel
theorem dX4_readYear_29 : decode cX4_readYear 29 = .ok (.if_icmp .ne 12, 3) := by decide +kernel
theorem dX4_readYear_32 : decode cX4_readYear 32 = .ok (.aload_n 0, 1) := by decide +kernel
theorem dX4_readYear_33 : decode cX4_readYear 33 = .ok (.aload_n 0, 1) := by decide +kernel
theorem dX4_readYear_34 : decode cX4_readYear 34 = .ok (.getfield 39, 3) := by decide +kernel
theorem dX4_readYear_37 : decode cX4_readYear 37 = .ok (.invokevirtual 53, 3) := by decide +kernel
theorem dX4_readYear_40 : decode cX4_readYear 40 = .ok (.ireturn, 1) := by decide +kernel
theorem dX4_readYear_41 : decode cX4_readYear 41 = .ok (.bipush 10, 2) := by decide +kernel
theorem dX4_readYear_43 : decode cX4_readYear 43 = .ok (.iload_n 1, 1) := by decide +kernel
theorem dX4_readYear_44 : decode cX4_readYear 44 = .ok (.imul, 1) := by decide +kernel
theorem dX4_readYear_45 : decode cX4_readYear 45 = .ok (.aload_n 0, 1) := by decide +kernel
theorem dX4_readYear_46 : decode cX4_readYear 46 = .ok (.invokevirtual 45, 3) := by decide +kernel
theorem dX4_readYear_49 : decode cX4_readYear 49 = .ok (.iadd, 1) := by decide +kernel
theorem dX4_readYear_50 : decode cX4_readYear 50 = .ok (.bipush 48, 2) := by decide +kernel
theorem dX4_readYear_52 : decode cX4_readYear 52 = .ok (.isub, 1) := by decide +kernel
theorem dX4_readYear_53 : decode cX4_readYear 53 = .ok (.istore_n 1, 1) := by decide +kernel
theorem dX4_readYear_54 : decode cX4_readYear 54 = .ok (.aload_n 0, 1) := by decide +kernel
theorem dX4_readYear_55 : decode cX4_readYear 55 = .ok (.dup, 1) := by decide +kernel
theorem dX4_readYear_56 : decode cX4_readYear 56 = .ok (.getfield 39, 3) := by decide +kernel
theorem dX4_readYear_59 : decode cX4_readYear 59 = .ok (.iconst 1, 1) := by decide +kernel
theorem dX4_readYear_60 : decode cX4_readYear 60 = .ok (.iadd, 1) := by decide +kernel
theorem dX4_readYear_61 : decode cX4_readYear 61 = .ok (.putfield 39, 3) := by decide +kernel
theorem dX4_readYear_64 : decode cX4_readYear 64 = .ok (.iinc 2 1, 3) := by decide +kernel
theorem dX4_readYear_67 : decode cX4_readYear 67 = .ok (.goto (-63), 3) := by decide +kernel
theorem dX4_readYear_70 : decode cX4_readYear 70 = .ok (.aload_n 0, 1) := by decide +kernel
theorem dX4_readYear_71 : decode cX4_readYear 71 = .ok (.getfield 13, 3) := by decide +kernel
theorem dX4_readYear_74 : decode cX4_readYear 74 = .ok (.bipush 23, 2) := by decide +kernel
theorem dX4_readYear_76 : decode cX4_readYear 76 = .ok (.iload_n 1, 1) := by decide +kernel
theorem dX4_readYear_77 : decode cX4_readYear 77 = .ok (.iastore, 1) := by decide +kernel
theorem dX4_readYear_78 : decode cX4_readYear 78 = .ok (.iconst 1, 1) := by decide +kernel
theorem dX4_readYear_79 : decode cX4_readYear 79 = .ok (.ireturn, 1) := by decide +kernel
theorem dX4_readVolume_0 : decode cX4_readVolume 0 = .ok (.aload_n 0, 1) := by decide +kernel
theorem dX4_readVolume_1 : decode cX4_readVolume 1 = .ok (.dup, 1) := by decide +kernel
theorem dX4_readVolume_2 : decode cX4_readVolume 2 = .ok (.getfield 39, 3) := by decide +kernel
theorem dX4_readVolume_5 : decode cX4_readVolume 5 = .ok (.iconst 2, 1) := by decide +kernel
theorem dX4_readVolume_6 : decode cX4_readVolume 6 = .ok (.iadd, 1) := by decide +kernel
theorem dX4_readVolume_7 : decode cX4_readVolume 7 = .ok (.putfield 39, 3) := by decide +kernel
theorem dX4_readVolume_10 : decode cX4_readVolume 10 = .ok (.aload_n 0, 1) := by decide +kernel
theorem dX4_readVolume_11 : decode cX4_readVolume 11 = .ok (.bipush 24, 2) := by decide +kernel
theorem dX4_readVolume_13 : decode cX4_readVolume 13 = .ok (.iconst 4, 1) := by decide +kernel
theorem dX4_readVolume_14 : decode cX4_readVolume 14 = .ok (.invokevirtual 59, 3) := by decide +kernel
theorem dX4_readVolume_17 : decode cX4_readVolume 17 = .ok (.ifCond .ne 5, 3) := by decide +kernel
theorem dX4_readVolume_20 : decode cX4_readVolume 20 = .ok (.iconst 0, 1) := by decide +kernel
theorem dX4_readVolume_21 : decode cX4_readVolume 21 = .ok (.ireturn, 1) := by decide +kernel
theorem dX4_readVolume_22 : decode cX4_readVolume 22 = .ok (.aload_n 0, 1) := by decide +kernel
theorem dX4_readVolume_23 : decode cX4_readVolume 23 = .ok (.invokevirtual 45, 3) := by decide +kernel
theorem dX4_readVolume_26 : decode cX4_readVolume 26 = .ok (.invokestatic 66, 3) := by decide +kernel
theorem dX4_readVolume_29 : decode cX4_readVolume 29 = .ok (.ifCond .eq 24, 3) := by decide +kernel
theorem dX4_readVolume_32 : decode cX4_readVolume 32 = .ok (.aload_n 0, 1) := by decide +kernel
theorem dX4_readVolume_33 : decode cX4_readVolume 33 = .ok (.getfield 13, 3) := by decide +kernel
theorem dX4_readVolume_36 : decode cX4_readVolume 36 = .ok (.bipush 25, 2) := by decide +kernel
theorem dX4_readVolume_38 : decode cX4_readVolume 38 = .ok (.aload_n 0, 1) := by decide +kernel
theorem dX4_readVolume_39 : decode cX4_readVolume 39 = .ok (.invokevirtual 45, 3) := by decide +kernel
theorem dX4_readVolume_42 : decode cX4_readVolume 42 = .ok (.iastore, 1) := by decide +kernel
theorem dX4_readVolume_43 : decode cX4_readVolume 43 = .ok (.aload_n 0, 1) := by decide +kernel
theorem dX4_readVolume_44 : decode cX4_readVolume 44 = .ok (.dup, 1) := by decide +kernel
theorem dX4_readVolume_45 : decode cX4_readVolume 45 = .ok (.getfield 39, 3) := by decide +kernel
theorem dX4_readVolume_48 : decode cX4_readVolume 48 = .ok (.iconst 1, 1) := by decide +kernel
theorem dX4_readVolume_49 : decode cX4_readVolume 49 = .ok (.iadd, 1) := by decide +kernel
theorem dX4_readVolume_50 : decode cX4_readVolume 50 = .ok (.putfield 39, 3) := by decide +kernel
theorem dX4_readVolume_53 : decode cX4_readVolume 53 = .ok (.iconst 1, 1) := by decide +kernel
theorem dX4_readVolume_54 : decode cX4_readVolume 54 = .ok (.ireturn, 1) := by decide +kernel
theorem dX4_readMark_0 : decode cX4_readMark 0 = .ok (.iconst 0, 1) := by decide +kernel
theorem dX4_readMark_1 : decode cX4_readMark 1 = .ok (.istore_n 1, 1) := by decide +kernel
theorem dX4_readMark_2 : decode cX4_readMark 2 = .ok (.aload_n 0, 1) := by decide +kernel
theorem dX4_readMark_3 : decode cX4_readMark 3 = .ok (.invokevirtual 45, 3) := by decide +kernel
theorem dX4_readMark_6 : decode cX4_readMark 6 = .ok (.invokestatic 66, 3) := by decide +kernel
theorem dX4_readMark_9 : decode cX4_readMark 9 = .ok (.ifCond .eq 47, 3) := by decide +kernel
theorem dX4_readMark_12 : decode cX4_readMark 12 = .ok (.iload_n 1, 1) := by decide +kernel
theorem dX4_readMark_13 : decode cX4_readMark 13 = .ok (.bipush 8, 2) := by decide +kernel
theorem dX4_readMark_15 : decode cX4_readMark 15 = .ok (.if_icmp .ne 12, 3) := by decide +kernel
theorem dX4_readMark_18 : decode cX4_readMark 18 = .ok (.aload_n 0, 1) := by decide +kernel
theorem dX4_readMark_19 : decode cX4_readMark 19 = .ok (.aload_n 0, 1) := by decide +kernel
theorem dX4_readMark_20 : decode cX4_readMark 20 = .ok (.getfield 39, 3) := by decide +kernel
theorem dX4_readMark_23 : decode cX4_readMark 23 = .ok (.invokevirtual 53, 3) := by decide +kernel
theorem dX4_readMark_26 : decode cX4_readMark 26 = .ok (.ireturn, 1) := by decide +kernel
theorem dX4_readMark_27 : decode cX4_readMark 27 = .ok (.aload_n 0, 1) := by decide +kernel
theorem dX4_readMark_28 : decode cX4_readMark 28 = .ok (.getfield 13, 3) := by decide +kernel
theorem dX4_readMark_31 : decode cX4_readMark 31 = .ok (.bipush 26, 2) := by decide +kernel
theorem dX4_readMark_33 : decode cX4_readMark 33 = .ok (.iload_n 1, 1) := by decide +kernel
theorem dX4_readMark_34 : decode cX4_readMark 34 = .ok (.iadd, 1) := by decide +kernel
theorem dX4_readMark_35 : decode cX4_readMark 35 = .ok (.aload_n 0, 1) := by decide +kernel
theorem dX4_readMark_36 : decode cX4_readMark 36 = .ok (.invokevirtual 45, 3) := by decide +kernel
theorem dX4_readMark_39 : decode cX4_readMark 39 = .ok (.iastore, 1) := by decide +kernel
theorem dX4_readMark_40 : decode cX4_readMark 40 = .ok (.iinc 1 1, 3) := by decide +kernel
theorem dX4_readMark_43 : decode cX4_readMark 43 = .ok (.aload_n 0, 1) := by decide +kernel
theorem dX4_readMark_44 : decode cX4_readMark 44 = .ok (.dup, 1) := by decide +kernel
theorem dX4_readMark_45 : decode cX4_readMark 45 = .ok (.getfield 39, 3) := by decide +kernel
theorem dX4_readMark_48 : decode cX4_readMark 48 = .ok (.iconst 1, 1) := by decide +kernel
theorem dX4_readMark_49 : decode cX4_readMark 49 = .ok (.iadd, 1) := by decide +kernel
theorem dX4_readMark_50 : decode cX4_readMark 50 = .ok (.putfield 39, 3) := by decide +kernel
theorem dX4_readMark_53 : decode cX4_readMark 53 = .ok (.goto (-51), 3) := by decide +kernel
theorem dX4_readMark_56 : decode cX4_readMark 56 = .ok (.iconst 1, 1) := by decide +kernel
theorem dX4_readMark_57 : decode cX4_readMark 57 = .ok (.ireturn, 1) := by decide +kernel
theorem dX4_space_0 : decode cX4_space 0 = .ok (.aload_n 0, 1) := by decide +kernel
theorem dX4_space_1 : decode cX4_space 1 = .ok (.invokevirtual 45, 3) := by decide +kernel
theorem dX4_space_4 : decode cX4_space 4 = .ok (.bipush 32, 2) := by decide +kernel
theorem dX4_space_6 : decode cX4_space 6 = .ok (.if_icmp .eq 12, 3) := by decide +kernel
theorem dX4_space_9 : decode cX4_space 9 = .ok (.aload_n 0, 1) := by decide +kernel
theorem dX4_space_10 : decode cX4_space 10 = .ok (.aload_n 0, 1) := by decide +kernel
theorem dX4_space_11 : decode cX4_space 11 = .ok (.getfield 39, 3) := by decide +kernel
theorem dX4_space_14 : decode cX4_space 14 = .ok (.invokevirtual 53, 3) := by decide +kernel
theorem dX4_space_17 : decode cX4_space 17 = .ok (.ireturn, 1) := by decide +kernel
theorem dX4_space_18 : decode cX4_space 18 = .ok (.aload_n 0, 1) := by decide +kernel
theorem dX4_space_19 : decode cX4_space 19 = .ok (.dup, 1) := by decide +kernel
theorem dX4_space_20 : decode cX4_space 20 = .ok (.getfield 39, 3) := by decide +kernel
theorem dX4_space_23 : decode cX4_space 23 = .ok (.iconst 1, 1) := by decide +kernel
theorem dX4_space_24 : decode cX4_space 24 = .ok (.iadd, 1) := by decide +kernel
theorem dX4_space_25 : decode cX4_space 25 = .ok (.putfield 39, 3) := by decide +kernel
theorem dX4_space_28 : decode cX4_space 28 = .ok (.iconst 1, 1) := by decide +kernel
theorem dX4_space_29 : decode cX4_space 29 = .ok (.ireturn, 1) := by decide +kernel
theorem dX4_reads_0 : decode cX4_reads 0 = .ok (.aload_n 0, 1) := by decide +kernel
theorem dX4_reads_1 : decode cX4_reads 1 = .ok (.invokevirtual 69, 3) := by decide +kernel
theorem dX4_reads_4 : decode cX4_reads 4 = .ok (.ifCond .eq 17, 3) := by decide +kernel
theorem dX4_reads_7 : decode cX4_reads 7 = .ok (.aload_n 0, 1) := by decide +kernel
theorem dX4_reads_8 : decode cX4_reads 8 = .ok (.invokevirtual 73, 3) := by decide +kernel
theorem dX4_reads_11 : decode cX4_reads 11 = .ok (.ifCond .eq 10, 3) := by decide +kernel
theorem dX4_reads_14 : decode cX4_reads 14 = .ok (.aload_n 0, 1) := by decide +kernel
theorem dX4_reads_15 : decode cX4_reads 15 = .ok (.invokevirtual 76, 3) := by decide +kernel
theorem dX4_reads_18 : decode cX4_reads 18 = .ok (.ifCond .ne 5, 3) := by decide +kernel
theorem dX4_reads_21 : decode cX4_reads 21 = .ok (.iconst 0, 1) := by decide +kernel
theorem dX4_reads_22 : decode cX4_reads 22 = .ok (.ireturn, 1) := by decide +kernel
theorem dX4_reads_23 : decode cX4_reads 23 = .ok (.aload_n 0, 1) := by decide +kernel
theorem dX4_reads_24 : decode cX4_reads 24 = .ok (.getfield 13, 3) := by decide +kernel
theorem dX4_reads_27 : decode cX4_reads 27 = .ok (.bipush 34, 2) := by decide +kernel
theorem dX4_reads_29 : decode cX4_reads 29 = .ok (.iconst 2, 1) := by decide +kernel
theorem dX4_reads_30 : decode cX4_reads 30 = .ok (.iastore, 1) := by decide +kernel
theorem dX4_reads_31 : decode cX4_reads 31 = .ok (.iconst 0, 1) := by decide +kernel
theorem dX4_reads_32 : decode cX4_reads 32 = .ok (.istore_n 1, 1) := by decide +kernel
theorem dX4_reads_33 : decode cX4_reads 33 = .ok (.aload_n 0, 1) := by decide +kernel
theorem dX4_reads_34 : decode cX4_reads 34 = .ok (.getfield 39, 3) := by decide +kernel
theorem dX4_reads_37 : decode cX4_reads 37 = .ok (.aload_n 0, 1) := by decide +kernel
theorem dX4_reads_38 : decode cX4_reads 38 = .ok (.getfield 36, 3) := by decide +kernel
theorem dX4_reads_41 : decode cX4_reads 41 = .ok (.if_icmp .ge 164, 3) := by decide +kernel
theorem dX4_reads_44 : decode cX4_reads 44 = .ok (.aload_n 0, 1) := by decide +kernel
theorem dX4_reads_45 : decode cX4_reads 45 = .ok (.invokevirtual 73, 3) := by decide +kernel
theorem dX4_reads_48 : decode cX4_reads 48 = .ok (.ifCond .ne 5, 3) := by decide +kernel
theorem dX4_reads_51 : decode cX4_reads 51 = .ok (.iconst 0, 1) := by decide +kernel
theorem dX4_reads_52 : decode cX4_reads 52 = .ok (.ireturn, 1) := by decide +kernel
theorem dX4_reads_53 : decode cX4_reads 53 = .ok (.aload_n 0, 1) := by decide +kernel
theorem dX4_reads_54 : decode cX4_reads 54 = .ok (.invokevirtual 45, 3) := by decide +kernel
theorem dX4_reads_57 : decode cX4_reads 57 = .ok (.istore_n 2, 1) := by decide +kernel
theorem dX4_reads_58 : decode cX4_reads 58 = .ok (.iload_n 2, 1) := by decide +kernel
theorem dX4_reads_59 : decode cX4_reads 59 = .ok (.bipush 118, 2) := by decide +kernel
theorem dX4_reads_61 : decode cX4_reads 61 = .ok (.if_icmp .ne 36, 3) := by decide +kernel
theorem dX4_reads_64 : decode cX4_reads 64 = .ok (.aload_n 0, 1) := by decide +kernel
theorem dX4_reads_65 : decode cX4_reads 65 = .ok (.getfield 39, 3) := by decide +kernel
theorem dX4_reads_68 : decode cX4_reads 68 = .ok (.iconst 1, 1) := by decide +kernel
theorem dX4_reads_69 : decode cX4_reads 69 = .ok (.iadd, 1) := by decide +kernel
theorem dX4_reads_70 : decode cX4_reads 70 = .ok (.aload_n 0, 1) := by decide +kernel
theorem dX4_reads_71 : decode cX4_reads 71 = .ok (.getfield 36, 3) := by decide +kernel
theorem dX4_reads_74 : decode cX4_reads 74 = .ok (.if_icmp .ge 23, 3) := by decide +kernel
theorem dX4_reads_77 : decode cX4_reads 77 = .ok (.aload_n 0, 1) := by decide +kernel
theorem dX4_reads_78 : decode cX4_reads 78 = .ok (.getfield 7, 3) := by decide +kernel
theorem dX4_reads_81 : decode cX4_reads 81 = .ok (.aload_n 0, 1) := by decide +kernel
theorem dX4_reads_82 : decode cX4_reads 82 = .ok (.getfield 39, 3) := by decide +kernel
theorem dX4_reads_85 : decode cX4_reads 85 = .ok (.iconst 1, 1) := by decide +kernel
theorem dX4_reads_86 : decode cX4_reads 86 = .ok (.iadd, 1) := by decide +kernel
theorem dX4_reads_87 : decode cX4_reads 87 = .ok (.baload, 1) := by decide +kernel
theorem dX4_reads_88 : decode cX4_reads 88 = .ok (.bipush 46, 2) := by decide +kernel
theorem dX4_reads_90 : decode cX4_reads 90 = .ok (.if_icmp .ne 7, 3) := by decide +kernel
theorem dX4_reads_93 : decode cX4_reads 93 = .ok (.iconst 1, 1) := by decide +kernel
theorem dX4_reads_94 : decode cX4_reads 94 = .ok (.goto 4, 3) := by decide +kernel
theorem dX4_reads_97 : decode cX4_reads 97 = .ok (.iconst 0, 1) := by decide +kernel
theorem dX4_reads_98 : decode cX4_reads 98 = .ok (.istore_n 3, 1) := by decide +kernel
theorem dX4_reads_99 : decode cX4_reads 99 = .ok (.iload_n 2, 1) := by decide +kernel
theorem dX4_reads_100 : decode cX4_reads 100 = .ok (.invokestatic 49, 3) := by decide +kernel
theorem dX4_reads_103 : decode cX4_reads 103 = .ok (.ifCond .eq 7, 3) := by decide +kernel
theorem dX4_reads_106 : decode cX4_reads 106 = .ok (.iconst 1, 1) := by decide +kernel
theorem dX4_reads_107 : decode cX4_reads 107 = .ok (.goto 23, 3) := by decide +kernel
theorem dX4_reads_110 : decode cX4_reads 110 = .ok (.iload_n 3, 1) := by decide +kernel
theorem dX4_reads_111 : decode cX4_reads 111 = .ok (.ifCond .eq 7, 3) := by decide +kernel
theorem dX4_reads_114 : decode cX4_reads 114 = .ok (.iconst 2, 1) := by decide +kernel
theorem dX4_reads_115 : decode cX4_reads 115 = .ok (.goto 15, 3) := by decide +kernel
theorem dX4_reads_118 : decode cX4_reads 118 = .ok (.iload_n 2, 1) := by decide +kernel
theorem dX4_reads_119 : decode cX4_reads 119 = .ok (.invokestatic 66, 3) := by decide +kernel
theorem dX4_reads_122 : decode cX4_reads 122 = .ok (.ifCond .eq 7, 3) := by decide +kernel
theorem dX4_reads_125 : decode cX4_reads 125 = .ok (.iconst 3, 1) := by decide +kernel
theorem dX4_reads_126 : decode cX4_reads 126 = .ok (.goto 4, 3) := by decide +kernel
theorem dX4_reads_129 : decode cX4_reads 129 = .ok (.iconst 0, 1) := by decide +kernel
theorem dX4_reads_130 : decode cX4_reads 130 = .ok (.istore 4, 2) := by decide +kernel
theorem dX4_reads_132 : decode cX4_reads 132 = .ok (.iload 4, 2) := by decide +kernel
theorem dX4_reads_134 : decode cX4_reads 134 = .ok (.iload_n 1, 1) := by decide +kernel
theorem dX4_reads_135 : decode cX4_reads 135 = .ok (.if_icmp .gt 12, 3) := by decide +kernel
theorem dX4_reads_138 : decode cX4_reads 138 = .ok (.aload_n 0, 1) := by decide +kernel
theorem dX4_reads_139 : decode cX4_reads 139 = .ok (.aload_n 0, 1) := by decide +kernel
theorem dX4_reads_140 : decode cX4_reads 140 = .ok (.getfield 39, 3) := by decide +kernel
theorem dX4_reads_143 : decode cX4_reads 143 = .ok (.invokevirtual 53, 3) := by decide +kernel
theorem dX4_reads_146 : decode cX4_reads 146 = .ok (.ireturn, 1) := by decide +kernel
theorem dX4_reads_147 : decode cX4_reads 147 = .ok (.iload 4, 2) := by decide +kernel
theorem dX4_reads_149 : decode cX4_reads 149 = .ok (.iconst 1, 1) := by decide +kernel
theorem dX4_reads_150 : decode cX4_reads 150 = .ok (.if_icmp .ne 13, 3) := by decide +kernel
theorem dX4_reads_153 : decode cX4_reads 153 = .ok (.aload_n 0, 1) := by decide +kernel
theorem dX4_reads_154 : decode cX4_reads 154 = .ok (.invokevirtual 79, 3) := by decide +kernel
theorem dX4_reads_157 : decode cX4_reads 157 = .ok (.ifCond .ne 31, 3) := by decide +kernel
theorem dX4_reads_160 : decode cX4_reads 160 = .ok (.goto 26, 3) := by decide +kernel
theorem dX4_reads_163 : decode cX4_reads 163 = .ok (.iload 4, 2) := by decide +kernel
theorem dX4_reads_165 : decode cX4_reads 165 = .ok (.iconst 2, 1) := by decide +kernel
theorem dX4_reads_166 : decode cX4_reads 166 = .ok (.if_icmp .ne 13, 3) := by decide +kernel
theorem dX4_reads_169 : decode cX4_reads 169 = .ok (.aload_n 0, 1) := by decide +kernel
theorem dX4_reads_170 : decode cX4_reads 170 = .ok (.invokevirtual 82, 3) := by decide +kernel
theorem dX4_reads_173 : decode cX4_reads 173 = .ok (.ifCond .ne 15, 3) := by decide +kernel
theorem dX4_reads_176 : decode cX4_reads 176 = .ok (.goto 10, 3) := by decide +kernel
theorem dX4_reads_179 : decode cX4_reads 179 = .ok (.aload_n 0, 1) := by decide +kernel
theorem dX4_reads_180 : decode cX4_reads 180 = .ok (.invokevirtual 85, 3) := by decide +kernel
theorem dX4_reads_183 : decode cX4_reads 183 = .ok (.ifCond .ne 5, 3) := by decide +kernel
theorem dX4_reads_186 : decode cX4_reads 186 = .ok (.iconst 0, 1) := by decide +kernel
theorem dX4_reads_187 : decode cX4_reads 187 = .ok (.ireturn, 1) := by decide +kernel
theorem dX4_reads_188 : decode cX4_reads 188 = .ok (.aload_n 0, 1) := by decide +kernel
theorem dX4_reads_189 : decode cX4_reads 189 = .ok (.getfield 13, 3) := by decide +kernel
theorem dX4_reads_192 : decode cX4_reads 192 = .ok (.bipush 34, 2) := by decide +kernel
theorem dX4_reads_194 : decode cX4_reads 194 = .ok (.dup2, 1) := by decide +kernel
theorem dX4_reads_195 : decode cX4_reads 195 = .ok (.iaload, 1) := by decide +kernel
theorem dX4_reads_196 : decode cX4_reads 196 = .ok (.iconst 1, 1) := by decide +kernel
theorem dX4_reads_197 : decode cX4_reads 197 = .ok (.iadd, 1) := by decide +kernel
theorem dX4_reads_198 : decode cX4_reads 198 = .ok (.iastore, 1) := by decide +kernel
theorem dX4_reads_199 : decode cX4_reads 199 = .ok (.iload 4, 2) := by decide +kernel
theorem dX4_reads_201 : decode cX4_reads 201 = .ok (.istore_n 1, 1) := by decide +kernel
theorem dX4_reads_202 : decode cX4_reads 202 = .ok (.goto (-169), 3) := by decide +kernel
theorem dX4_reads_205 : decode cX4_reads 205 = .ok (.iconst 1, 1) := by decide +kernel
theorem dX4_reads_206 : decode cX4_reads 206 = .ok (.ireturn, 1) := by decide +kernel
theorem dX4_read_0 : decode cX4_read 0 = .ok (.aload_n 0, 1) := by decide +kernel
theorem dX4_read_1 : decode cX4_read 1 = .ok (.iconst 0, 1) := by decide +kernel
theorem dX4_read_2 : decode cX4_read 2 = .ok (.putfield 33, 3) := by decide +kernel
theorem dX4_read_5 : decode cX4_read 5 = .ok (.iconst 0, 1) := by decide +kernel
theorem dX4_read_6 : decode cX4_read 6 = .ok (.istore_n 1, 1) := by decide +kernel
theorem dX4_read_7 : decode cX4_read 7 = .ok (.iload_n 1, 1) := by decide +kernel
theorem dX4_read_8 : decode cX4_read 8 = .ok (.bipush 40, 2) := by decide +kernel
theorem dX4_read_10 : decode cX4_read 10 = .ok (.if_icmp .ge 16, 3) := by decide +kernel
theorem dX4_read_13 : decode cX4_read 13 = .ok (.aload_n 0, 1) := by decide +kernel
theorem dX4_read_14 : decode cX4_read 14 = .ok (.getfield 13, 3) := by decide +kernel
theorem dX4_read_17 : decode cX4_read 17 = .ok (.iload_n 1, 1) := by decide +kernel
theorem dX4_read_18 : decode cX4_read 18 = .ok (.iconst 0, 1) := by decide +kernel
theorem dX4_read_19 : decode cX4_read 19 = .ok (.iastore, 1) := by decide +kernel
theorem dX4_read_20 : decode cX4_read 20 = .ok (.iinc 1 1, 3) := by decide +kernel
theorem dX4_read_23 : decode cX4_read 23 = .ok (.goto (-16), 3) := by decide +kernel
theorem dX4_read_26 : decode cX4_read 26 = .ok (.aload_n 0, 1) := by decide +kernel
theorem dX4_read_27 : decode cX4_read 27 = .ok (.iconst 0, 1) := by decide +kernel
theorem dX4_read_28 : decode cX4_read 28 = .ok (.putfield 39, 3) := by decide +kernel
theorem dX4_read_31 : decode cX4_read 31 = .ok (.aload_n 0, 1) := by decide +kernel
theorem dX4_read_32 : decode cX4_read 32 = .ok (.invokevirtual 88, 3) := by decide +kernel
theorem dX4_read_35 : decode cX4_read 35 = .ok (.istore_n 1, 1) := by decide +kernel
theorem dX4_read_36 : decode cX4_read 36 = .ok (.aload_n 0, 1) := by decide +kernel
theorem dX4_read_37 : decode cX4_read 37 = .ok (.iconst 0, 1) := by decide +kernel
theorem dX4_read_38 : decode cX4_read 38 = .ok (.putfield 36, 3) := by decide +kernel
theorem dX4_read_41 : decode cX4_read 41 = .ok (.iload_n 1, 1) := by decide +kernel
theorem dX4_read_42 : decode cX4_read 42 = .ok (.ifCond .ne 10, 3) := by decide +kernel
theorem dX4_read_45 : decode cX4_read 45 = .ok (.iconst (-1), 1) := by decide +kernel
theorem dX4_read_46 : decode cX4_read 46 = .ok (.aload_n 0, 1) := by decide +kernel
theorem dX4_read_47 : decode cX4_read 47 = .ok (.getfield 42, 3) := by decide +kernel
theorem dX4_read_50 : decode cX4_read 50 = .ok (.isub, 1) := by decide +kernel
theorem dX4_read_51 : decode cX4_read 51 = .ok (.ireturn, 1) := by decide +kernel
theorem dX4_read_52 : decode cX4_read 52 = .ok (.iconst 0, 1) := by decide +kernel
theorem dX4_read_53 : decode cX4_read 53 = .ok (.istore_n 2, 1) := by decide +kernel
theorem dX4_read_54 : decode cX4_read 54 = .ok (.iload_n 2, 1) := by decide +kernel
theorem dX4_read_55 : decode cX4_read 55 = .ok (.bipush 40, 2) := by decide +kernel
theorem dX4_read_57 : decode cX4_read 57 = .ok (.if_icmp .ge 21, 3) := by decide +kernel
theorem dX4_read_60 : decode cX4_read 60 = .ok (.aload_n 0, 1) := by decide +kernel
theorem dX4_read_61 : decode cX4_read 61 = .ok (.getfield 17, 3) := by decide +kernel
theorem dX4_read_64 : decode cX4_read 64 = .ok (.iload_n 2, 1) := by decide +kernel
theorem dX4_read_65 : decode cX4_read 65 = .ok (.aload_n 0, 1) := by decide +kernel
theorem dX4_read_66 : decode cX4_read 66 = .ok (.getfield 13, 3) := by decide +kernel
theorem dX4_read_69 : decode cX4_read 69 = .ok (.iload_n 2, 1) := by decide +kernel
theorem dX4_read_70 : decode cX4_read 70 = .ok (.iaload, 1) := by decide +kernel
theorem dX4_read_71 : decode cX4_read 71 = .ok (.iastore, 1) := by decide +kernel
theorem dX4_read_72 : decode cX4_read 72 = .ok (.iinc 2 1, 3) := by decide +kernel
theorem dX4_read_75 : decode cX4_read 75 = .ok (.goto (-21), 3) := by decide +kernel
theorem dX4_read_78 : decode cX4_read 78 = .ok (.aload_n 0, 1) := by decide +kernel
theorem dX4_read_79 : decode cX4_read 79 = .ok (.iconst 1, 1) := by decide +kernel
theorem dX4_read_80 : decode cX4_read 80 = .ok (.putfield 91, 3) := by decide +kernel
theorem dX4_read_83 : decode cX4_read 83 = .ok (.aload_n 0, 1) := by decide +kernel
theorem dX4_read_84 : decode cX4_read 84 = .ok (.getfield 13, 3) := by decide +kernel
theorem dX4_read_87 : decode cX4_read 87 = .ok (.bipush 34, 2) := by decide +kernel
theorem dX4_read_89 : decode cX4_read 89 = .ok (.iaload, 1) := by decide +kernel
theorem dX4_read_90 : decode cX4_read 90 = .ok (.ireturn, 1) := by decide +kernel
theorem dX4_value_0 : decode cX4_value 0 = .ok (.lconst 0, 1) := by decide +kernel
theorem dX4_value_1 : decode cX4_value 1 = .ok (.lstore_n 3, 1) := by decide +kernel
theorem dX4_value_2 : decode cX4_value 2 = .ok (.iconst 0, 1) := by decide +kernel
theorem dX4_value_3 : decode cX4_value 3 = .ok (.istore 5, 2) := by decide +kernel
theorem dX4_value_5 : decode cX4_value 5 = .ok (.iload 5, 2) := by decide +kernel
theorem dX4_value_7 : decode cX4_value 7 = .ok (.iload_n 2, 1) := by decide +kernel
theorem dX4_value_8 : decode cX4_value 8 = .ok (.if_icmp .ge 38, 3) := by decide +kernel
theorem dX4_value_11 : decode cX4_value 11 = .ok (.ldc2_w 95, 3) := by decide +kernel
theorem dX4_value_14 : decode cX4_value 14 = .ok (.lload_n 3, 1) := by decide +kernel
theorem dX4_value_15 : decode cX4_value 15 = .ok (.lmul, 1) := by decide +kernel
theorem dX4_value_16 : decode cX4_value 16 = .ok (.aload_n 0, 1) := by decide +kernel
theorem dX4_value_17 : decode cX4_value 17 = .ok (.iload_n 1, 1) := by decide +kernel
theorem dX4_value_18 : decode cX4_value 18 = .ok (.iload 5, 2) := by decide +kernel
theorem dX4_value_20 : decode cX4_value 20 = .ok (.iadd, 1) := by decide +kernel
theorem dX4_value_21 : decode cX4_value 21 = .ok (.iaload, 1) := by decide +kernel
theorem dX4_value_22 : decode cX4_value 22 = .ok (.ifCond .le 14, 3) := by decide +kernel
theorem dX4_value_25 : decode cX4_value 25 = .ok (.aload_n 0, 1) := by decide +kernel
theorem dX4_value_26 : decode cX4_value 26 = .ok (.iload_n 1, 1) := by decide +kernel
theorem dX4_value_27 : decode cX4_value 27 = .ok (.iload 5, 2) := by decide +kernel
theorem dX4_value_29 : decode cX4_value 29 = .ok (.iadd, 1) := by decide +kernel
theorem dX4_value_30 : decode cX4_value 30 = .ok (.iaload, 1) := by decide +kernel
theorem dX4_value_31 : decode cX4_value 31 = .ok (.iconst 1, 1) := by decide +kernel
theorem dX4_value_32 : decode cX4_value 32 = .ok (.isub, 1) := by decide +kernel
theorem dX4_value_33 : decode cX4_value 33 = .ok (.goto 4, 3) := by decide +kernel
theorem dX4_value_36 : decode cX4_value 36 = .ok (.iconst 0, 1) := by decide +kernel
theorem dX4_value_37 : decode cX4_value 37 = .ok (.i2l, 1) := by decide +kernel
theorem dX4_value_38 : decode cX4_value 38 = .ok (.ladd, 1) := by decide +kernel
theorem dX4_value_39 : decode cX4_value 39 = .ok (.lstore_n 3, 1) := by decide +kernel
theorem dX4_value_40 : decode cX4_value 40 = .ok (.iinc 5 1, 3) := by decide +kernel
theorem dX4_value_43 : decode cX4_value 43 = .ok (.goto (-38), 3) := by decide +kernel
theorem dX4_value_46 : decode cX4_value 46 = .ok (.lload_n 3, 1) := by decide +kernel
theorem dX4_value_47 : decode cX4_value 47 = .ok (.lreturn, 1) := by decide +kernel
theorem dX4_marks_0 : decode cX4_marks 0 = .ok (.iconst 0, 1) := by decide +kernel
theorem dX4_marks_1 : decode cX4_marks 1 = .ok (.istore_n 1, 1) := by decide +kernel
theorem dX4_marks_2 : decode cX4_marks 2 = .ok (.iload_n 1, 1) := by decide +kernel
theorem dX4_marks_3 : decode cX4_marks 3 = .ok (.bipush 8, 2) := by decide +kernel
theorem dX4_marks_5 : decode cX4_marks 5 = .ok (.if_icmp .ge 21, 3) := by decide +kernel
theorem dX4_marks_8 : decode cX4_marks 8 = .ok (.aload_n 0, 1) := by decide +kernel
theorem dX4_marks_9 : decode cX4_marks 9 = .ok (.getfield 17, 3) := by decide +kernel
theorem dX4_marks_12 : decode cX4_marks 12 = .ok (.bipush 26, 2) := by decide +kernel
theorem dX4_marks_14 : decode cX4_marks 14 = .ok (.iload_n 1, 1) := by decide +kernel
theorem dX4_marks_15 : decode cX4_marks 15 = .ok (.iadd, 1) := by decide +kernel
theorem dX4_marks_16 : decode cX4_marks 16 = .ok (.iaload, 1) := by decide +kernel
theorem dX4_marks_17 : decode cX4_marks 17 = .ok (.ifCond .le 9, 3) := by decide +kernel
theorem dX4_marks_20 : decode cX4_marks 20 = .ok (.iinc 1 1, 3) := by decide +kernel
theorem dX4_marks_23 : decode cX4_marks 23 = .ok (.goto (-21), 3) := by decide +kernel
theorem dX4_marks_26 : decode cX4_marks 26 = .ok (.iload_n 1, 1) := by decide +kernel
theorem dX4_marks_27 : decode cX4_marks 27 = .ok (.ireturn, 1) := by decide +kernel
theorem dX4_part_0 : decode cX4_part 0 = .ok (.aload_n 0, 1) := by decide +kernel
theorem dX4_part_1 : decode cX4_part 1 = .ok (.iconst 0, 1) := by decide +kernel
theorem dX4_part_2 : decode cX4_part 2 = .ok (.putfield 33, 3) := by decide +kernel
theorem dX4_part_5 : decode cX4_part 5 = .ok (.aload_n 0, 1) := by decide +kernel
theorem dX4_part_6 : decode cX4_part 6 = .ok (.getfield 91, 3) := by decide +kernel
theorem dX4_part_9 : decode cX4_part 9 = .ok (.ifCond .eq 12, 3) := by decide +kernel
theorem dX4_part_12 : decode cX4_part 12 = .ok (.iload_n 1, 1) := by decide +kernel
theorem dX4_part_13 : decode cX4_part 13 = .ok (.ifCond .lt 8, 3) := by decide +kernel
theorem dX4_part_16 : decode cX4_part 16 = .ok (.iload_n 1, 1) := by decide +kernel
theorem dX4_part_17 : decode cX4_part 17 = .ok (.iconst 4, 1) := by decide +kernel
theorem dX4_part_18 : decode cX4_part 18 = .ok (.if_icmp .le 10, 3) := by decide +kernel
theorem dX4_part_21 : decode cX4_part 21 = .ok (.aload_n 0, 1) := by decide +kernel
theorem dX4_part_22 : decode cX4_part 22 = .ok (.iconst 1, 1) := by decide +kernel
theorem dX4_part_23 : decode cX4_part 23 = .ok (.putfield 33, 3) := by decide +kernel
theorem dX4_part_26 : decode cX4_part 26 = .ok (.lconst 0, 1) := by decide +kernel
theorem dX4_part_27 : decode cX4_part 27 = .ok (.lreturn, 1) := by decide +kernel
theorem dX4_part_28 : decode cX4_part 28 = .ok (.iload_n 1, 1) := by decide +kernel
theorem dX4_part_29 : decode cX4_part 29 = .ok (.tableswitch 117 0 3 #[31, 87, 99, 108], 31) := by decide +kernel
theorem dX4_part_60 : decode cX4_part 60 = .ok (.aload_n 0, 1) := by decide +kernel
theorem dX4_part_61 : decode cX4_part 61 = .ok (.getfield 29, 3) := by decide +kernel
theorem dX4_part_64 : decode cX4_part 64 = .ok (.ifCond .ne 30, 3) := by decide +kernel
theorem dX4_part_67 : decode cX4_part 67 = .ok (.aload_n 0, 1) := by decide +kernel
theorem dX4_part_68 : decode cX4_part 68 = .ok (.getfield 17, 3) := by decide +kernel
theorem dX4_part_71 : decode cX4_part 71 = .ok (.iconst 3, 1) := by decide +kernel
theorem dX4_part_72 : decode cX4_part 72 = .ok (.iaload, 1) := by decide +kernel
theorem dX4_part_73 : decode cX4_part 73 = .ok (.iconst 1, 1) := by decide +kernel
theorem dX4_part_74 : decode cX4_part 74 = .ok (.isub, 1) := by decide +kernel
theorem dX4_part_75 : decode cX4_part 75 = .ok (.i2l, 1) := by decide +kernel
theorem dX4_part_76 : decode cX4_part 76 = .ok (.ldc2_w 97, 3) := by decide +kernel
theorem dX4_part_79 : decode cX4_part 79 = .ok (.lmul, 1) := by decide +kernel
theorem dX4_part_80 : decode cX4_part 80 = .ok (.aload_n 0, 1) := by decide +kernel
theorem dX4_part_81 : decode cX4_part 81 = .ok (.getfield 17, 3) := by decide +kernel
theorem dX4_part_84 : decode cX4_part 84 = .ok (.iconst 4, 1) := by decide +kernel
theorem dX4_part_85 : decode cX4_part 85 = .ok (.bipush 9, 2) := by decide +kernel
theorem dX4_part_87 : decode cX4_part 87 = .ok (.invokestatic 99, 3) := by decide +kernel
theorem dX4_part_90 : decode cX4_part 90 = .ok (.ladd, 1) := by decide +kernel
theorem dX4_part_91 : decode cX4_part 91 = .ok (.goto 24, 3) := by decide +kernel
theorem dX4_part_94 : decode cX4_part 94 = .ok (.aload_n 0, 1) := by decide +kernel
theorem dX4_part_95 : decode cX4_part 95 = .ok (.getfield 17, 3) := by decide +kernel
theorem dX4_part_98 : decode cX4_part 98 = .ok (.iconst 3, 1) := by decide +kernel
theorem dX4_part_99 : decode cX4_part 99 = .ok (.iaload, 1) := by decide +kernel
theorem dX4_part_100 : decode cX4_part 100 = .ok (.i2l, 1) := by decide +kernel
theorem dX4_part_101 : decode cX4_part 101 = .ok (.ldc2_w 103, 3) := by decide +kernel
theorem dX4_part_104 : decode cX4_part 104 = .ok (.lmul, 1) := by decide +kernel
theorem dX4_part_105 : decode cX4_part 105 = .ok (.aload_n 0, 1) := by decide +kernel
theorem dX4_part_106 : decode cX4_part 106 = .ok (.getfield 17, 3) := by decide +kernel
theorem dX4_part_109 : decode cX4_part 109 = .ok (.iconst 4, 1) := by decide +kernel
theorem dX4_part_110 : decode cX4_part 110 = .ok (.iconst 4, 1) := by decide +kernel
theorem dX4_part_111 : decode cX4_part 111 = .ok (.invokestatic 99, 3) := by decide +kernel
theorem dX4_part_114 : decode cX4_part 114 = .ok (.ladd, 1) := by decide +kernel
theorem dX4_part_115 : decode cX4_part 115 = .ok (.lreturn, 1) := by decide +kernel
theorem dX4_part_116 : decode cX4_part 116 = .ok (.aload_n 0, 1) := by decide +kernel
theorem dX4_part_117 : decode cX4_part 117 = .ok (.getfield 17, 3) := by decide +kernel
theorem dX4_part_120 : decode cX4_part 120 = .ok (.bipush 17, 2) := by decide +kernel
theorem dX4_part_122 : decode cX4_part 122 = .ok (.bipush 6, 2) := by decide +kernel
theorem dX4_part_124 : decode cX4_part 124 = .ok (.invokestatic 99, 3) := by decide +kernel
theorem dX4_part_127 : decode cX4_part 127 = .ok (.lreturn, 1) := by decide +kernel
theorem dX4_part_128 : decode cX4_part 128 = .ok (.aload_n 0, 1) := by decide +kernel
theorem dX4_part_129 : decode cX4_part 129 = .ok (.getfield 17, 3) := by decide +kernel
theorem dX4_part_132 : decode cX4_part 132 = .ok (.bipush 23, 2) := by decide +kernel
theorem dX4_part_134 : decode cX4_part 134 = .ok (.iaload, 1) := by decide +kernel
theorem dX4_part_135 : decode cX4_part 135 = .ok (.i2l, 1) := by decide +kernel
theorem dX4_part_136 : decode cX4_part 136 = .ok (.lreturn, 1) := by decide +kernel
theorem dX4_part_137 : decode cX4_part 137 = .ok (.aload_n 0, 1) := by decide +kernel
theorem dX4_part_138 : decode cX4_part 138 = .ok (.getfield 17, 3) := by decide +kernel
theorem dX4_part_141 : decode cX4_part 141 = .ok (.bipush 24, 2) := by decide +kernel
theorem dX4_part_143 : decode cX4_part 143 = .ok (.iaload, 1) := by decide +kernel
theorem dX4_part_144 : decode cX4_part 144 = .ok (.i2l, 1) := by decide +kernel
theorem dX4_part_145 : decode cX4_part 145 = .ok (.lreturn, 1) := by decide +kernel
theorem dX4_part_146 : decode cX4_part 146 = .ok (.aload_n 0, 1) := by decide +kernel
theorem dX4_part_147 : decode cX4_part 147 = .ok (.invokevirtual 105, 3) := by decide +kernel
theorem dX4_part_150 : decode cX4_part 150 = .ok (.i2l, 1) := by decide +kernel
theorem dX4_part_151 : decode cX4_part 151 = .ok (.lreturn, 1) := by decide +kernel
theorem dX4_letters_0 : decode cX4_letters 0 = .ok (.iconst 0, 1) := by decide +kernel
theorem dX4_letters_1 : decode cX4_letters 1 = .ok (.istore_n 1, 1) := by decide +kernel
theorem dX4_letters_2 : decode cX4_letters 2 = .ok (.iload_n 1, 1) := by decide +kernel
theorem dX4_letters_3 : decode cX4_letters 3 = .ok (.iconst 3, 1) := by decide +kernel
theorem dX4_letters_4 : decode cX4_letters 4 = .ok (.if_icmp .ge 18, 3) := by decide +kernel
theorem dX4_letters_7 : decode cX4_letters 7 = .ok (.aload_n 0, 1) := by decide +kernel
theorem dX4_letters_8 : decode cX4_letters 8 = .ok (.getfield 17, 3) := by decide +kernel
theorem dX4_letters_11 : decode cX4_letters 11 = .ok (.iload_n 1, 1) := by decide +kernel
theorem dX4_letters_12 : decode cX4_letters 12 = .ok (.iaload, 1) := by decide +kernel
theorem dX4_letters_13 : decode cX4_letters 13 = .ok (.ifCond .le 9, 3) := by decide +kernel
theorem dX4_letters_16 : decode cX4_letters 16 = .ok (.iinc 1 1, 3) := by decide +kernel
theorem dX4_letters_19 : decode cX4_letters 19 = .ok (.goto (-17), 3) := by decide +kernel
theorem dX4_letters_22 : decode cX4_letters 22 = .ok (.iload_n 1, 1) := by decide +kernel
theorem dX4_letters_23 : decode cX4_letters 23 = .ok (.ireturn, 1) := by decide +kernel
theorem dX4_letter_0 : decode cX4_letter 0 = .ok (.aload_n 0, 1) := by decide +kernel
theorem dX4_letter_1 : decode cX4_letter 1 = .ok (.iconst 0, 1) := by decide +kernel
theorem dX4_letter_2 : decode cX4_letter 2 = .ok (.putfield 33, 3) := by decide +kernel
theorem dX4_letter_5 : decode cX4_letter 5 = .ok (.aload_n 0, 1) := by decide +kernel
theorem dX4_letter_6 : decode cX4_letter 6 = .ok (.invokevirtual 108, 3) := by decide +kernel
theorem dX4_letter_9 : decode cX4_letter 9 = .ok (.istore_n 2, 1) := by decide +kernel
theorem dX4_letter_10 : decode cX4_letter 10 = .ok (.aload_n 0, 1) := by decide +kernel
