theorem dX3_init_0 : decode cX3_init 0 = .ok (.aload_n 0, 1) := by decide +kernel
theorem dX3_init_1 : decode cX3_init 1 = .ok (.invokespecial 1, 3) := by decide +kernel
theorem dX3_init_4 : decode cX3_init 4 = .ok (.aload_n 0, 1) := by decide +kernel
theorem dX3_init_5 : decode cX3_init 5 = .ok (.new 7, 3) := by decide +kernel
theorem dX3_init_8 : decode cX3_init 8 = .ok (.dup, 1) := by decide +kernel
theorem dX3_init_9 : decode cX3_init 9 = .ok (.iload_n 1, 1) := by decide +kernel
theorem dX3_init_10 : decode cX3_init 10 = .ok (.iconst 1, 1) := by decide +kernel
theorem dX3_init_11 : decode cX3_init 11 = .ok (.if_icmp .lt 7, 3) := by decide +kernel
theorem dX3_init_14 : decode cX3_init 14 = .ok (.iconst 1, 1) := by decide +kernel
theorem dX3_init_15 : decode cX3_init 15 = .ok (.goto 4, 3) := by decide +kernel
theorem dX3_init_18 : decode cX3_init 18 = .ok (.iconst 0, 1) := by decide +kernel
theorem dX3_init_19 : decode cX3_init 19 = .ok (.invokespecial 9, 3) := by decide +kernel
theorem dX3_init_22 : decode cX3_init 22 = .ok (.putfield 12, 3) := by decide +kernel
theorem dX3_init_25 : decode cX3_init 25 = .ok (.aload_n 0, 1) := by decide +kernel
theorem dX3_init_26 : decode cX3_init 26 = .ok (.new 18, 3) := by decide +kernel
theorem dX3_init_29 : decode cX3_init 29 = .ok (.dup, 1) := by decide +kernel
theorem dX3_init_30 : decode cX3_init 30 = .ok (.invokespecial 20, 3) := by decide +kernel
theorem dX3_init_33 : decode cX3_init 33 = .ok (.putfield 21, 3) := by decide +kernel
theorem dX3_init_36 : decode cX3_init 36 = .ok (.aload_n 0, 1) := by decide +kernel
theorem dX3_init_37 : decode cX3_init 37 = .ok (.aconst_null, 1) := by decide +kernel
theorem dX3_init_38 : decode cX3_init 38 = .ok (.putfield 25, 3) := by decide +kernel
theorem dX3_init_41 : decode cX3_init 41 = .ok (.aload_n 0, 1) := by decide +kernel
theorem dX3_init_42 : decode cX3_init 42 = .ok (.aconst_null, 1) := by decide +kernel
theorem dX3_init_43 : decode cX3_init 43 = .ok (.putfield 29, 3) := by decide +kernel
theorem dX3_init_46 : decode cX3_init 46 = .ok (.return_, 1) := by decide +kernel
theorem dX3_sign_0 : decode cX3_sign 0 = .ok (.aload_n 0, 1) := by decide +kernel
theorem dX3_sign_1 : decode cX3_sign 1 = .ok (.getfield 12, 3) := by decide +kernel
theorem dX3_sign_4 : decode cX3_sign 4 = .ok (.iload_n 1, 1) := by decide +kernel
theorem dX3_sign_5 : decode cX3_sign 5 = .ok (.sipush 255, 3) := by decide +kernel
theorem dX3_sign_8 : decode cX3_sign 8 = .ok (.iand, 1) := by decide +kernel
theorem dX3_sign_9 : decode cX3_sign 9 = .ok (.invokevirtual 32, 3) := by decide +kernel
theorem dX3_sign_12 : decode cX3_sign 12 = .ok (.return_, 1) := by decide +kernel
theorem dX3_read_0 : decode cX3_read 0 = .ok (.aload_n 0, 1) := by decide +kernel
theorem dX3_read_1 : decode cX3_read 1 = .ok (.getfield 12, 3) := by decide +kernel
theorem dX3_read_4 : decode cX3_read 4 = .ok (.invokevirtual 36, 3) := by decide +kernel
theorem dX3_read_7 : decode cX3_read 7 = .ok (.astore_n 1, 1) := by decide +kernel
theorem dX3_read_8 : decode cX3_read 8 = .ok (.aload_n 0, 1) := by decide +kernel
theorem dX3_read_9 : decode cX3_read 9 = .ok (.getfield 12, 3) := by decide +kernel
theorem dX3_read_12 : decode cX3_read 12 = .ok (.invokevirtual 40, 3) := by decide +kernel
theorem dX3_read_15 : decode cX3_read 15 = .ok (.aload_n 1, 1) := by decide +kernel
theorem dX3_read_16 : decode cX3_read 16 = .ok (.ifnonnull 13, 3) := by decide +kernel
theorem dX3_read_19 : decode cX3_read 19 = .ok (.iconst (-1), 1) := by decide +kernel
theorem dX3_read_20 : decode cX3_read 20 = .ok (.aload_n 0, 1) := by decide +kernel
theorem dX3_read_21 : decode cX3_read 21 = .ok (.getfield 12, 3) := by decide +kernel
theorem dX3_read_24 : decode cX3_read 24 = .ok (.invokevirtual 43, 3) := by decide +kernel
theorem dX3_read_27 : decode cX3_read 27 = .ok (.isub, 1) := by decide +kernel
theorem dX3_read_28 : decode cX3_read 28 = .ok (.ireturn, 1) := by decide +kernel
theorem dX3_read_29 : decode cX3_read 29 = .ok (.aload_n 0, 1) := by decide +kernel
theorem dX3_read_30 : decode cX3_read 30 = .ok (.aload_n 1, 1) := by decide +kernel
theorem dX3_read_31 : decode cX3_read 31 = .ok (.putfield 25, 3) := by decide +kernel
theorem dX3_read_34 : decode cX3_read 34 = .ok (.aload_n 1, 1) := by decide +kernel
theorem dX3_read_35 : decode cX3_read 35 = .ok (.invokevirtual 47, 3) := by decide +kernel
theorem dX3_read_38 : decode cX3_read 38 = .ok (.ireturn, 1) := by decide +kernel
theorem dX3_part_0 : decode cX3_part 0 = .ok (.aload_n 0, 1) := by decide +kernel
theorem dX3_part_1 : decode cX3_part 1 = .ok (.getfield 25, 3) := by decide +kernel
theorem dX3_part_4 : decode cX3_part 4 = .ok (.ifnull 12, 3) := by decide +kernel
theorem dX3_part_7 : decode cX3_part 7 = .ok (.iload_n 1, 1) := by decide +kernel
theorem dX3_part_8 : decode cX3_part 8 = .ok (.ifCond .lt 8, 3) := by decide +kernel
theorem dX3_part_11 : decode cX3_part 11 = .ok (.iload_n 1, 1) := by decide +kernel
theorem dX3_part_12 : decode cX3_part 12 = .ok (.iconst 4, 1) := by decide +kernel
theorem dX3_part_13 : decode cX3_part 13 = .ok (.if_icmp .le 13, 3) := by decide +kernel
theorem dX3_part_16 : decode cX3_part 16 = .ok (.new 52, 3) := by decide +kernel
theorem dX3_part_19 : decode cX3_part 19 = .ok (.dup, 1) := by decide +kernel
theorem dX3_part_20 : decode cX3_part 20 = .ok (.ldc 54, 2) := by decide +kernel
theorem dX3_part_22 : decode cX3_part 22 = .ok (.invokespecial 56, 3) := by decide +kernel
theorem dX3_part_25 : decode cX3_part 25 = .ok (.athrow, 1) := by decide +kernel
theorem dX3_part_26 : decode cX3_part 26 = .ok (.iload_n 1, 1) := by decide +kernel
theorem dX3_part_27 : decode cX3_part 27 = .ok (.tableswitch 64 0 3 #[29, 37, 46, 55], 29) := by decide +kernel
theorem dX3_part_56 : decode cX3_part 56 = .ok (.aload_n 0, 1) := by decide +kernel
theorem dX3_part_57 : decode cX3_part 57 = .ok (.getfield 25, 3) := by decide +kernel
theorem dX3_part_60 : decode cX3_part 60 = .ok (.getfield 59, 3) := by decide +kernel
theorem dX3_part_63 : decode cX3_part 63 = .ok (.lreturn, 1) := by decide +kernel
theorem dX3_part_64 : decode cX3_part 64 = .ok (.aload_n 0, 1) := by decide +kernel
theorem dX3_part_65 : decode cX3_part 65 = .ok (.getfield 25, 3) := by decide +kernel
theorem dX3_part_68 : decode cX3_part 68 = .ok (.getfield 63, 3) := by decide +kernel
theorem dX3_part_71 : decode cX3_part 71 = .ok (.i2l, 1) := by decide +kernel
theorem dX3_part_72 : decode cX3_part 72 = .ok (.lreturn, 1) := by decide +kernel
theorem dX3_part_73 : decode cX3_part 73 = .ok (.aload_n 0, 1) := by decide +kernel
theorem dX3_part_74 : decode cX3_part 74 = .ok (.getfield 25, 3) := by decide +kernel
theorem dX3_part_77 : decode cX3_part 77 = .ok (.getfield 67, 3) := by decide +kernel
theorem dX3_part_80 : decode cX3_part 80 = .ok (.i2l, 1) := by decide +kernel
theorem dX3_part_81 : decode cX3_part 81 = .ok (.lreturn, 1) := by decide +kernel
theorem dX3_part_82 : decode cX3_part 82 = .ok (.aload_n 0, 1) := by decide +kernel
theorem dX3_part_83 : decode cX3_part 83 = .ok (.getfield 25, 3) := by decide +kernel
theorem dX3_part_86 : decode cX3_part 86 = .ok (.getfield 70, 3) := by decide +kernel
theorem dX3_part_89 : decode cX3_part 89 = .ok (.i2l, 1) := by decide +kernel
theorem dX3_part_90 : decode cX3_part 90 = .ok (.lreturn, 1) := by decide +kernel
theorem dX3_part_91 : decode cX3_part 91 = .ok (.aload_n 0, 1) := by decide +kernel
theorem dX3_part_92 : decode cX3_part 92 = .ok (.getfield 25, 3) := by decide +kernel
theorem dX3_part_95 : decode cX3_part 95 = .ok (.getfield 73, 3) := by decide +kernel
theorem dX3_part_98 : decode cX3_part 98 = .ok (.i2l, 1) := by decide +kernel
theorem dX3_part_99 : decode cX3_part 99 = .ok (.lreturn, 1) := by decide +kernel
theorem dX3_letter_0 : decode cX3_letter 0 = .ok (.aload_n 0, 1) := by decide +kernel
theorem dX3_letter_1 : decode cX3_letter 1 = .ok (.getfield 25, 3) := by decide +kernel
theorem dX3_letter_4 : decode cX3_letter 4 = .ok (.ifnonnull 7, 3) := by decide +kernel
theorem dX3_letter_7 : decode cX3_letter 7 = .ok (.iconst 0, 1) := by decide +kernel
theorem dX3_letter_8 : decode cX3_letter 8 = .ok (.goto 11, 3) := by decide +kernel
theorem dX3_letter_11 : decode cX3_letter 11 = .ok (.aload_n 0, 1) := by decide +kernel
theorem dX3_letter_12 : decode cX3_letter 12 = .ok (.getfield 25, 3) := by decide +kernel
theorem dX3_letter_15 : decode cX3_letter 15 = .ok (.iload_n 1, 1) := by decide +kernel
theorem dX3_letter_16 : decode cX3_letter 16 = .ok (.invokevirtual 76, 3) := by decide +kernel
theorem dX3_letter_19 : decode cX3_letter 19 = .ok (.ireturn, 1) := by decide +kernel
theorem dX3_put_0 : decode cX3_put 0 = .ok (.aload_n 0, 1) := by decide +kernel
theorem dX3_put_1 : decode cX3_put 1 = .ok (.getfield 25, 3) := by decide +kernel
theorem dX3_put_4 : decode cX3_put 4 = .ok (.ifnonnull 5, 3) := by decide +kernel
theorem dX3_put_7 : decode cX3_put 7 = .ok (.iconst (-1), 1) := by decide +kernel
theorem dX3_put_8 : decode cX3_put 8 = .ok (.ireturn, 1) := by decide +kernel
theorem dX3_put_9 : decode cX3_put 9 = .ok (.aload_n 0, 1) := by decide +kernel
theorem dX3_put_10 : decode cX3_put 10 = .ok (.getfield 21, 3) := by decide +kernel
theorem dX3_put_13 : decode cX3_put 13 = .ok (.aload_n 0, 1) := by decide +kernel
theorem dX3_put_14 : decode cX3_put 14 = .ok (.getfield 25, 3) := by decide +kernel
theorem dX3_put_17 : decode cX3_put 17 = .ok (.invokevirtual 80, 3) := by decide +kernel
theorem dX3_put_20 : decode cX3_put 20 = .ok (.istore_n 2, 1) := by decide +kernel
theorem dX3_put_21 : decode cX3_put 21 = .ok (.aload_n 0, 1) := by decide +kernel
theorem dX3_put_22 : decode cX3_put 22 = .ok (.getfield 21, 3) := by decide +kernel
theorem dX3_put_25 : decode cX3_put 25 = .ok (.iload_n 2, 1) := by decide +kernel
theorem dX3_put_26 : decode cX3_put 26 = .ok (.aload_n 0, 1) := by decide +kernel
theorem dX3_put_27 : decode cX3_put 27 = .ok (.getfield 25, 3) := by decide +kernel
theorem dX3_put_30 : decode cX3_put 30 = .ok (.invokevirtual 84, 3) := by decide +kernel
theorem dX3_put_33 : decode cX3_put 33 = .ok (.ifCond .eq 8, 3) := by decide +kernel
theorem dX3_put_36 : decode cX3_put 36 = .ok (.bipush (-2), 2) := by decide +kernel
theorem dX3_put_38 : decode cX3_put 38 = .ok (.iload_n 2, 1) := by decide +kernel
theorem dX3_put_39 : decode cX3_put 39 = .ok (.isub, 1) := by decide +kernel
theorem dX3_put_40 : decode cX3_put 40 = .ok (.ireturn, 1) := by decide +kernel
theorem dX3_put_41 : decode cX3_put 41 = .ok (.aload_n 0, 1) := by decide +kernel
theorem dX3_put_42 : decode cX3_put 42 = .ok (.getfield 21, 3) := by decide +kernel
theorem dX3_put_45 : decode cX3_put 45 = .ok (.iload_n 2, 1) := by decide +kernel
theorem dX3_put_46 : decode cX3_put 46 = .ok (.aload_n 0, 1) := by decide +kernel
theorem dX3_put_47 : decode cX3_put 47 = .ok (.getfield 25, 3) := by decide +kernel
theorem dX3_put_50 : decode cX3_put 50 = .ok (.iload_n 1, 1) := by decide +kernel
theorem dX3_put_51 : decode cX3_put 51 = .ok (.invokevirtual 88, 3) := by decide +kernel
theorem dX3_put_54 : decode cX3_put 54 = .ok (.ifCond .eq 7, 3) := by decide +kernel
theorem dX3_put_57 : decode cX3_put 57 = .ok (.iload_n 2, 1) := by decide +kernel
theorem dX3_put_58 : decode cX3_put 58 = .ok (.goto 4, 3) := by decide +kernel
theorem dX3_put_61 : decode cX3_put 61 = .ok (.iconst (-1), 1) := by decide +kernel
theorem dX3_put_62 : decode cX3_put 62 = .ok (.ireturn, 1) := by decide +kernel
theorem dX3_shelf_0 : decode cX3_shelf 0 = .ok (.aload_n 0, 1) := by decide +kernel
theorem dX3_shelf_1 : decode cX3_shelf 1 = .ok (.getfield 21, 3) := by decide +kernel
theorem dX3_shelf_4 : decode cX3_shelf 4 = .ok (.iload_n 1, 1) := by decide +kernel
theorem dX3_shelf_5 : decode cX3_shelf 5 = .ok (.invokevirtual 92, 3) := by decide +kernel
theorem dX3_shelf_8 : decode cX3_shelf 8 = .ok (.ireturn, 1) := by decide +kernel
theorem dX3_take_0 : decode cX3_take 0 = .ok (.aload_n 0, 1) := by decide +kernel
theorem dX3_take_1 : decode cX3_take 1 = .ok (.getfield 21, 3) := by decide +kernel
theorem dX3_take_4 : decode cX3_take 4 = .ok (.iload_n 1, 1) := by decide +kernel
theorem dX3_take_5 : decode cX3_take 5 = .ok (.invokevirtual 92, 3) := by decide +kernel
theorem dX3_take_8 : decode cX3_take 8 = .ok (.istore_n 2, 1) := by decide +kernel
theorem dX3_take_9 : decode cX3_take 9 = .ok (.aload_n 0, 1) := by decide +kernel
theorem dX3_take_10 : decode cX3_take 10 = .ok (.getfield 21, 3) := by decide +kernel
theorem dX3_take_13 : decode cX3_take 13 = .ok (.iload_n 1, 1) := by decide +kernel
theorem dX3_take_14 : decode cX3_take 14 = .ok (.invokevirtual 95, 3) := by decide +kernel
theorem dX3_take_17 : decode cX3_take 17 = .ok (.iload_n 2, 1) := by decide +kernel
theorem dX3_take_18 : decode cX3_take 18 = .ok (.ireturn, 1) := by decide +kernel
theorem dX3_compare_0 : decode cX3_compare 0 = .ok (.aload_n 0, 1) := by decide +kernel
theorem dX3_compare_1 : decode cX3_compare 1 = .ok (.getfield 21, 3) := by decide +kernel
theorem dX3_compare_4 : decode cX3_compare 4 = .ok (.iload_n 1, 1) := by decide +kernel
theorem dX3_compare_5 : decode cX3_compare 5 = .ok (.invokevirtual 98, 3) := by decide +kernel
theorem dX3_compare_8 : decode cX3_compare 8 = .ok (.astore_n 3, 1) := by decide +kernel
theorem dX3_compare_9 : decode cX3_compare 9 = .ok (.aload_n 0, 1) := by decide +kernel
theorem dX3_compare_10 : decode cX3_compare 10 = .ok (.getfield 21, 3) := by decide +kernel
theorem dX3_compare_13 : decode cX3_compare 13 = .ok (.iload_n 2, 1) := by decide +kernel
theorem dX3_compare_14 : decode cX3_compare 14 = .ok (.invokevirtual 98, 3) := by decide +kernel
theorem dX3_compare_17 : decode cX3_compare 17 = .ok (.astore 4, 2) := by decide +kernel
theorem dX3_compare_19 : decode cX3_compare 19 = .ok (.aload_n 3, 1) := by decide +kernel
theorem dX3_compare_20 : decode cX3_compare 20 = .ok (.ifnull 8, 3) := by decide +kernel
theorem dX3_compare_23 : decode cX3_compare 23 = .ok (.aload 4, 2) := by decide +kernel
theorem dX3_compare_25 : decode cX3_compare 25 = .ok (.ifnonnull 6, 3) := by decide +kernel
theorem dX3_compare_28 : decode cX3_compare 28 = .ok (.bipush (-2), 2) := by decide +kernel
theorem dX3_compare_30 : decode cX3_compare 30 = .ok (.ireturn, 1) := by decide +kernel
theorem dX3_compare_31 : decode cX3_compare 31 = .ok (.aload_n 3, 1) := by decide +kernel
theorem dX3_compare_32 : decode cX3_compare 32 = .ok (.aload 4, 2) := by decide +kernel
theorem dX3_compare_34 : decode cX3_compare 34 = .ok (.invokestatic 102, 3) := by decide +kernel
theorem dX3_compare_37 : decode cX3_compare 37 = .ok (.ireturn, 1) := by decide +kernel
theorem dX3_before_0 : decode cX3_before 0 = .ok (.aload_n 0, 1) := by decide +kernel
theorem dX3_before_1 : decode cX3_before 1 = .ok (.getfield 25, 3) := by decide +kernel
theorem dX3_before_4 : decode cX3_before 4 = .ok (.ifnonnull 7, 3) := by decide +kernel
theorem dX3_before_7 : decode cX3_before 7 = .ok (.iconst (-1), 1) := by decide +kernel
theorem dX3_before_8 : decode cX3_before 8 = .ok (.goto 14, 3) := by decide +kernel
theorem dX3_before_11 : decode cX3_before 11 = .ok (.aload_n 0, 1) := by decide +kernel
theorem dX3_before_12 : decode cX3_before 12 = .ok (.getfield 21, 3) := by decide +kernel
theorem dX3_before_15 : decode cX3_before 15 = .ok (.aload_n 0, 1) := by decide +kernel
theorem dX3_before_16 : decode cX3_before 16 = .ok (.getfield 25, 3) := by decide +kernel
theorem dX3_before_19 : decode cX3_before 19 = .ok (.invokevirtual 80, 3) := by decide +kernel
theorem dX3_before_22 : decode cX3_before 22 = .ok (.ireturn, 1) := by decide +kernel
theorem dX3_free_0 : decode cX3_free 0 = .ok (.aload_n 0, 1) := by decide +kernel
theorem dX3_free_1 : decode cX3_free 1 = .ok (.getfield 25, 3) := by decide +kernel
theorem dX3_free_4 : decode cX3_free 4 = .ok (.ifnonnull 5, 3) := by decide +kernel
theorem dX3_free_7 : decode cX3_free 7 = .ok (.iconst 0, 1) := by decide +kernel
theorem dX3_free_8 : decode cX3_free 8 = .ok (.ireturn, 1) := by decide +kernel
theorem dX3_free_9 : decode cX3_free 9 = .ok (.iconst 0, 1) := by decide +kernel
theorem dX3_free_10 : decode cX3_free 10 = .ok (.istore_n 1, 1) := by decide +kernel
theorem dX3_free_11 : decode cX3_free 11 = .ok (.iload_n 1, 1) := by decide +kernel
theorem dX3_free_12 : decode cX3_free 12 = .ok (.bipush 6, 2) := by decide +kernel
theorem dX3_free_14 : decode cX3_free 14 = .ok (.aload_n 0, 1) := by decide +kernel
theorem dX3_free_15 : decode cX3_free 15 = .ok (.getfield 25, 3) := by decide +kernel
theorem dX3_free_18 : decode cX3_free 18 = .ok (.getfield 106, 3) := by decide +kernel
theorem dX3_free_21 : decode cX3_free 21 = .ok (.isub, 1) := by decide +kernel
theorem dX3_free_22 : decode cX3_free 22 = .ok (.if_icmp .gt 25, 3) := by decide +kernel
theorem dX3_free_25 : decode cX3_free 25 = .ok (.aload_n 0, 1) := by decide +kernel
theorem dX3_free_26 : decode cX3_free 26 = .ok (.aload_n 0, 1) := by decide +kernel
theorem dX3_free_27 : decode cX3_free 27 = .ok (.getfield 25, 3) := by decide +kernel
theorem dX3_free_30 : decode cX3_free 30 = .ok (.iload_n 1, 1) := by decide +kernel
theorem dX3_free_31 : decode cX3_free 31 = .ok (.invokevirtual 109, 3) := by decide +kernel
theorem dX3_free_34 : decode cX3_free 34 = .ok (.istore_n 2, 1) := by decide +kernel
theorem dX3_free_35 : decode cX3_free 35 = .ok (.iload_n 2, 1) := by decide +kernel
theorem dX3_free_36 : decode cX3_free 36 = .ok (.ifCond .eq 5, 3) := by decide +kernel
theorem dX3_free_39 : decode cX3_free 39 = .ok (.iload_n 2, 1) := by decide +kernel
theorem dX3_free_40 : decode cX3_free 40 = .ok (.ireturn, 1) := by decide +kernel
theorem dX3_free_41 : decode cX3_free 41 = .ok (.iinc 1 1, 3) := by decide +kernel
theorem dX3_free_44 : decode cX3_free 44 = .ok (.goto (-33), 3) := by decide +kernel
theorem dX3_free_47 : decode cX3_free 47 = .ok (.iconst 0, 1) := by decide +kernel
theorem dX3_free_48 : decode cX3_free 48 = .ok (.ireturn, 1) := by decide +kernel
theorem dX3_spine_0 : decode cX3_spine 0 = .ok (.aload_n 0, 1) := by decide +kernel
theorem dX3_spine_1 : decode cX3_spine 1 = .ok (.getfield 25, 3) := by decide +kernel
theorem dX3_spine_4 : decode cX3_spine 4 = .ok (.ifnonnull 7, 3) := by decide +kernel
theorem dX3_spine_7 : decode cX3_spine 7 = .ok (.iconst (-1), 1) := by decide +kernel
theorem dX3_spine_8 : decode cX3_spine 8 = .ok (.goto 11, 3) := by decide +kernel
theorem dX3_spine_11 : decode cX3_spine 11 = .ok (.aload_n 0, 1) := by decide +kernel
theorem dX3_spine_12 : decode cX3_spine 12 = .ok (.getfield 25, 3) := by decide +kernel
theorem dX3_spine_15 : decode cX3_spine 15 = .ok (.iload_n 1, 1) := by decide +kernel
theorem dX3_spine_16 : decode cX3_spine 16 = .ok (.invokevirtual 113, 3) := by decide +kernel
theorem dX3_spine_19 : decode cX3_spine 19 = .ok (.ireturn, 1) := by decide +kernel
theorem dX3_pass_0 : decode cX3_pass 0 = .ok (.aload_n 0, 1) := by decide +kernel
theorem dX3_pass_1 : decode cX3_pass 1 = .ok (.getfield 21, 3) := by decide +kernel
theorem dX3_pass_4 : decode cX3_pass 4 = .ok (.aload_n 0, 1) := by decide +kernel
theorem dX3_pass_5 : decode cX3_pass 5 = .ok (.getfield 21, 3) := by decide +kernel
theorem dX3_pass_8 : decode cX3_pass 8 = .ok (.iload_n 1, 1) := by decide +kernel
theorem dX3_pass_9 : decode cX3_pass 9 = .ok (.invokevirtual 116, 3) := by decide +kernel
theorem dX3_pass_12 : decode cX3_pass 12 = .ok (.invokevirtual 98, 3) := by decide +kernel
theorem dX3_pass_15 : decode cX3_pass 15 = .ok (.astore_n 2, 1) := by decide +kernel
theorem dX3_pass_16 : decode cX3_pass 16 = .ok (.aload_n 2, 1) := by decide +kernel
theorem dX3_pass_17 : decode cX3_pass 17 = .ok (.ifnonnull 5, 3) := by decide +kernel
theorem dX3_pass_20 : decode cX3_pass 20 = .ok (.iconst (-1), 1) := by decide +kernel
theorem dX3_pass_21 : decode cX3_pass 21 = .ok (.ireturn, 1) := by decide +kernel
theorem dX3_pass_22 : decode cX3_pass 22 = .ok (.aload_n 0, 1) := by decide +kernel
theorem dX3_pass_23 : decode cX3_pass 23 = .ok (.getfield 29, 3) := by decide +kernel
theorem dX3_pass_26 : decode cX3_pass 26 = .ok (.ifnull 14, 3) := by decide +kernel
theorem dX3_pass_29 : decode cX3_pass 29 = .ok (.aload_n 0, 1) := by decide +kernel
theorem dX3_pass_30 : decode cX3_pass 30 = .ok (.getfield 29, 3) := by decide +kernel
theorem dX3_pass_33 : decode cX3_pass 33 = .ok (.aload_n 2, 1) := by decide +kernel
theorem dX3_pass_34 : decode cX3_pass 34 = .ok (.invokestatic 102, 3) := by decide +kernel
theorem dX3_pass_37 : decode cX3_pass 37 = .ok (.ifCond .gt 7, 3) := by decide +kernel
theorem dX3_pass_40 : decode cX3_pass 40 = .ok (.iconst 1, 1) := by decide +kernel
theorem dX3_pass_41 : decode cX3_pass 41 = .ok (.goto 4, 3) := by decide +kernel
theorem dX3_pass_44 : decode cX3_pass 44 = .ok (.iconst 0, 1) := by decide +kernel
theorem dX3_pass_45 : decode cX3_pass 45 = .ok (.istore_n 3, 1) := by decide +kernel
theorem dX3_pass_46 : decode cX3_pass 46 = .ok (.aload_n 0, 1) := by decide +kernel
theorem dX3_pass_47 : decode cX3_pass 47 = .ok (.aload_n 2, 1) := by decide +kernel
theorem dX3_pass_48 : decode cX3_pass 48 = .ok (.putfield 29, 3) := by decide +kernel
theorem dX3_pass_51 : decode cX3_pass 51 = .ok (.iload_n 3, 1) := by decide +kernel
theorem dX3_pass_52 : decode cX3_pass 52 = .ok (.ifCond .eq 7, 3) := by decide +kernel
theorem dX3_pass_55 : decode cX3_pass 55 = .ok (.iconst 1, 1) := by decide +kernel
theorem dX3_pass_56 : decode cX3_pass 56 = .ok (.goto 4, 3) := by decide +kernel
theorem dX3_pass_59 : decode cX3_pass 59 = .ok (.iconst 0, 1) := by decide +kernel
theorem dX3_pass_60 : decode cX3_pass 60 = .ok (.ireturn, 1) := by decide +kernel
theorem dX3_freeWithMore_0 : decode cX3_freeWithMore 0 = .ok (.aload_n 1, 1) := by decide +kernel
theorem dX3_freeWithMore_1 : decode cX3_freeWithMore 1 = .ok (.getfield 106, 3) := by decide +kernel
theorem dX3_freeWithMore_4 : decode cX3_freeWithMore 4 = .ok (.iload_n 2, 1) := by decide +kernel
theorem dX3_freeWithMore_5 : decode cX3_freeWithMore 5 = .ok (.iadd, 1) := by decide +kernel
theorem dX3_freeWithMore_6 : decode cX3_freeWithMore 6 = .ok (.istore_n 3, 1) := by decide +kernel
theorem dX3_freeWithMore_7 : decode cX3_freeWithMore 7 = .ok (.bipush 6, 2) := by decide +kernel
theorem dX3_freeWithMore_9 : decode cX3_freeWithMore 9 = .ok (.iload_n 3, 1) := by decide +kernel
theorem dX3_freeWithMore_10 : decode cX3_freeWithMore 10 = .ok (.isub, 1) := by decide +kernel
theorem dX3_freeWithMore_11 : decode cX3_freeWithMore 11 = .ok (.invokestatic 119, 3) := by decide +kernel
theorem dX3_freeWithMore_14 : decode cX3_freeWithMore 14 = .ok (.l2i, 1) := by decide +kernel
theorem dX3_freeWithMore_15 : decode cX3_freeWithMore 15 = .ok (.istore 4, 2) := by decide +kernel
theorem dX3_freeWithMore_17 : decode cX3_freeWithMore 17 = .ok (.iload_n 2, 1) := by decide +kernel
theorem dX3_freeWithMore_18 : decode cX3_freeWithMore 18 = .ok (.invokestatic 119, 3) := by decide +kernel
theorem dX3_freeWithMore_21 : decode cX3_freeWithMore 21 = .ok (.l2i, 1) := by decide +kernel
theorem dX3_freeWithMore_22 : decode cX3_freeWithMore 22 = .ok (.istore 5, 2) := by decide +kernel
theorem dX3_freeWithMore_24 : decode cX3_freeWithMore 24 = .ok (.aload_n 1, 1) := by decide +kernel
theorem dX3_freeWithMore_25 : decode cX3_freeWithMore 25 = .ok (.invokevirtual 123, 3) := by decide +kernel
theorem dX3_freeWithMore_28 : decode cX3_freeWithMore 28 = .ok (.iload 5, 2) := by decide +kernel
theorem dX3_freeWithMore_30 : decode cX3_freeWithMore 30 = .ok (.imul, 1) := by decide +kernel
theorem dX3_freeWithMore_31 : decode cX3_freeWithMore 31 = .ok (.istore 6, 2) := by decide +kernel
theorem dX3_freeWithMore_33 : decode cX3_freeWithMore 33 = .ok (.iload 5, 2) := by decide +kernel
theorem dX3_freeWithMore_35 : decode cX3_freeWithMore 35 = .ok (.bipush 10, 2) := by decide +kernel
theorem dX3_freeWithMore_37 : decode cX3_freeWithMore 37 = .ok (.idiv, 1) := by decide +kernel
theorem dX3_freeWithMore_38 : decode cX3_freeWithMore 38 = .ok (.istore 7, 2) := by decide +kernel
theorem dX3_freeWithMore_40 : decode cX3_freeWithMore 40 = .ok (.iload 7, 2) := by decide +kernel
theorem dX3_freeWithMore_42 : decode cX3_freeWithMore 42 = .ok (.iload 5, 2) := by decide +kernel
theorem dX3_freeWithMore_44 : decode cX3_freeWithMore 44 = .ok (.if_icmp .ge 42, 3) := by decide +kernel
theorem dX3_freeWithMore_47 : decode cX3_freeWithMore 47 = .ok (.iload 7, 2) := by decide +kernel
theorem dX3_freeWithMore_49 : decode cX3_freeWithMore 49 = .ok (.invokestatic 126, 3) := by decide +kernel
theorem dX3_freeWithMore_52 : decode cX3_freeWithMore 52 = .ok (.ifCond .eq 28, 3) := by decide +kernel
theorem dX3_freeWithMore_55 : decode cX3_freeWithMore 55 = .ok (.aload_n 0, 1) := by decide +kernel
theorem dX3_freeWithMore_56 : decode cX3_freeWithMore 56 = .ok (.getfield 21, 3) := by decide +kernel
theorem dX3_freeWithMore_59 : decode cX3_freeWithMore 59 = .ok (.aload_n 1, 1) := by decide +kernel
theorem dX3_freeWithMore_60 : decode cX3_freeWithMore 60 = .ok (.iload 6, 2) := by decide +kernel
theorem dX3_freeWithMore_62 : decode cX3_freeWithMore 62 = .ok (.iload 7, 2) := by decide +kernel
theorem dX3_freeWithMore_64 : decode cX3_freeWithMore 64 = .ok (.iadd, 1) := by decide +kernel
theorem dX3_freeWithMore_65 : decode cX3_freeWithMore 65 = .ok (.iload 4, 2) := by decide +kernel
theorem dX3_freeWithMore_67 : decode cX3_freeWithMore 67 = .ok (.imul, 1) := by decide +kernel
theorem dX3_freeWithMore_68 : decode cX3_freeWithMore 68 = .ok (.invokevirtual 130, 3) := by decide +kernel
theorem dX3_freeWithMore_71 : decode cX3_freeWithMore 71 = .ok (.ifCond .ne 9, 3) := by decide +kernel
theorem dX3_freeWithMore_74 : decode cX3_freeWithMore 74 = .ok (.iload 6, 2) := by decide +kernel
theorem dX3_freeWithMore_76 : decode cX3_freeWithMore 76 = .ok (.iload 7, 2) := by decide +kernel
theorem dX3_freeWithMore_78 : decode cX3_freeWithMore 78 = .ok (.iadd, 1) := by decide +kernel
theorem dX3_freeWithMore_79 : decode cX3_freeWithMore 79 = .ok (.ireturn, 1) := by decide +kernel
theorem dX3_freeWithMore_80 : decode cX3_freeWithMore 80 = .ok (.iinc 7 1, 3) := by decide +kernel
theorem dX3_freeWithMore_83 : decode cX3_freeWithMore 83 = .ok (.goto (-43), 3) := by decide +kernel
theorem dX3_freeWithMore_86 : decode cX3_freeWithMore 86 = .ok (.iconst 0, 1) := by decide +kernel
theorem dX3_freeWithMore_87 : decode cX3_freeWithMore 87 = .ok (.ireturn, 1) := by decide +kernel
theorem dX3_hasNoZero_0 : decode cX3_hasNoZero 0 = .ok (.iload_n 0, 1) := by decide +kernel
theorem dX3_hasNoZero_1 : decode cX3_hasNoZero 1 = .ok (.istore_n 1, 1) := by decide +kernel
theorem dX3_hasNoZero_2 : decode cX3_hasNoZero 2 = .ok (.iconst 0, 1) := by decide +kernel
theorem dX3_hasNoZero_3 : decode cX3_hasNoZero 3 = .ok (.istore_n 2, 1) := by decide +kernel
theorem dX3_hasNoZero_4 : decode cX3_hasNoZero 4 = .ok (.iload_n 2, 1) := by decide +kernel
theorem dX3_hasNoZero_5 : decode cX3_hasNoZero 5 = .ok (.bipush 6, 2) := by decide +kernel
theorem dX3_hasNoZero_7 : decode cX3_hasNoZero 7 = .ok (.if_icmp .ge 27, 3) := by decide +kernel
theorem dX3_hasNoZero_10 : decode cX3_hasNoZero 10 = .ok (.iload_n 1, 1) := by decide +kernel
theorem dX3_hasNoZero_11 : decode cX3_hasNoZero 11 = .ok (.ifCond .le 23, 3) := by decide +kernel
theorem dX3_hasNoZero_14 : decode cX3_hasNoZero 14 = .ok (.iload_n 1, 1) := by decide +kernel
theorem dX3_hasNoZero_15 : decode cX3_hasNoZero 15 = .ok (.bipush 10, 2) := by decide +kernel
theorem dX3_hasNoZero_17 : decode cX3_hasNoZero 17 = .ok (.irem, 1) := by decide +kernel
theorem dX3_hasNoZero_18 : decode cX3_hasNoZero 18 = .ok (.ifCond .ne 5, 3) := by decide +kernel
theorem dX3_hasNoZero_21 : decode cX3_hasNoZero 21 = .ok (.iconst 0, 1) := by decide +kernel
theorem dX3_hasNoZero_22 : decode cX3_hasNoZero 22 = .ok (.ireturn, 1) := by decide +kernel
theorem dX3_hasNoZero_23 : decode cX3_hasNoZero 23 = .ok (.iload_n 1, 1) := by decide +kernel
theorem dX3_hasNoZero_24 : decode cX3_hasNoZero 24 = .ok (.bipush 10, 2) := by decide +kernel
theorem dX3_hasNoZero_26 : decode cX3_hasNoZero 26 = .ok (.idiv, 1) := by decide +kernel
theorem dX3_hasNoZero_27 : decode cX3_hasNoZero 27 = .ok (.istore_n 1, 1) := by decide +kernel
theorem dX3_hasNoZero_28 : decode cX3_hasNoZero 28 = .ok (.iinc 2 1, 3) := by decide +kernel
theorem dX3_hasNoZero_31 : decode cX3_hasNoZero 31 = .ok (.goto (-27), 3) := by decide +kernel
theorem dX3_hasNoZero_34 : decode cX3_hasNoZero 34 = .ok (.iconst 1, 1) := by decide +kernel
theorem dX3_hasNoZero_35 : decode cX3_hasNoZero 35 = .ok (.ireturn, 1) := by decide +kernel
theorem dX3_powerOfTen_0 : decode cX3_powerOfTen 0 = .ok (.lconst 1, 1) := by decide +kernel
theorem dX3_powerOfTen_1 : decode cX3_powerOfTen 1 = .ok (.lstore_n 1, 1) := by decide +kernel
theorem dX3_powerOfTen_2 : decode cX3_powerOfTen 2 = .ok (.iconst 0, 1) := by decide +kernel
theorem dX3_powerOfTen_3 : decode cX3_powerOfTen 3 = .ok (.istore_n 3, 1) := by decide +kernel
theorem dX3_powerOfTen_4 : decode cX3_powerOfTen 4 = .ok (.iload_n 3, 1) := by decide +kernel
theorem dX3_powerOfTen_5 : decode cX3_powerOfTen 5 = .ok (.iload_n 0, 1) := by decide +kernel
theorem dX3_powerOfTen_6 : decode cX3_powerOfTen 6 = .ok (.if_icmp .ge 15, 3) := by decide +kernel
theorem dX3_powerOfTen_9 : decode cX3_powerOfTen 9 = .ok (.lload_n 1, 1) := by decide +kernel
theorem dX3_powerOfTen_10 : decode cX3_powerOfTen 10 = .ok (.ldc2_w 134, 3) := by decide +kernel
theorem dX3_powerOfTen_13 : decode cX3_powerOfTen 13 = .ok (.lmul, 1) := by decide +kernel
theorem dX3_powerOfTen_14 : decode cX3_powerOfTen 14 = .ok (.lstore_n 1, 1) := by decide +kernel
theorem dX3_powerOfTen_15 : decode cX3_powerOfTen 15 = .ok (.iinc 3 1, 3) := by decide +kernel
theorem dX3_powerOfTen_18 : decode cX3_powerOfTen 18 = .ok (.goto (-14), 3) := by decide +kernel
theorem dX3_powerOfTen_21 : decode cX3_powerOfTen 21 = .ok (.lload_n 1, 1) := by decide +kernel
theorem dX3_powerOfTen_22 : decode cX3_powerOfTen 22 = .ok (.lreturn, 1) := by decide +kernel
theorem dX3_order_0 : decode cX3_order 0 = .ok (.aload_n 0, 1) := by decide +kernel
theorem dX3_order_1 : decode cX3_order 1 = .ok (.getfield 136, 3) := by decide +kernel
theorem dX3_order_4 : decode cX3_order 4 = .ok (.i2l, 1) := by decide +kernel
theorem dX3_order_5 : decode cX3_order 5 = .ok (.aload_n 1, 1) := by decide +kernel
theorem dX3_order_6 : decode cX3_order 6 = .ok (.getfield 136, 3) := by decide +kernel
theorem dX3_order_9 : decode cX3_order 9 = .ok (.i2l, 1) := by decide +kernel
theorem dX3_order_10 : decode cX3_order 10 = .ok (.invokestatic 139, 3) := by decide +kernel
theorem dX3_order_13 : decode cX3_order 13 = .ok (.istore_n 2, 1) := by decide +kernel
theorem dX3_order_14 : decode cX3_order 14 = .ok (.iload_n 2, 1) := by decide +kernel
theorem dX3_order_15 : decode cX3_order 15 = .ok (.ifCond .ne 15, 3) := by decide +kernel
theorem dX3_order_18 : decode cX3_order 18 = .ok (.aload_n 0, 1) := by decide +kernel
theorem dX3_order_19 : decode cX3_order 19 = .ok (.getfield 59, 3) := by decide +kernel
theorem dX3_order_22 : decode cX3_order 22 = .ok (.aload_n 1, 1) := by decide +kernel
theorem dX3_order_23 : decode cX3_order 23 = .ok (.getfield 59, 3) := by decide +kernel
theorem dX3_order_26 : decode cX3_order 26 = .ok (.invokestatic 139, 3) := by decide +kernel
theorem dX3_order_29 : decode cX3_order 29 = .ok (.istore_n 2, 1) := by decide +kernel
theorem dX3_order_30 : decode cX3_order 30 = .ok (.iload_n 2, 1) := by decide +kernel
theorem dX3_order_31 : decode cX3_order 31 = .ok (.ifCond .ne 17, 3) := by decide +kernel
theorem dX3_order_34 : decode cX3_order 34 = .ok (.aload_n 0, 1) := by decide +kernel
theorem dX3_order_35 : decode cX3_order 35 = .ok (.getfield 143, 3) := by decide +kernel
theorem dX3_order_38 : decode cX3_order 38 = .ok (.i2l, 1) := by decide +kernel
theorem dX3_order_39 : decode cX3_order 39 = .ok (.aload_n 1, 1) := by decide +kernel
theorem dX3_order_40 : decode cX3_order 40 = .ok (.getfield 143, 3) := by decide +kernel
theorem dX3_order_43 : decode cX3_order 43 = .ok (.i2l, 1) := by decide +kernel
theorem dX3_order_44 : decode cX3_order 44 = .ok (.invokestatic 139, 3) := by decide +kernel
theorem dX3_order_47 : decode cX3_order 47 = .ok (.istore_n 2, 1) := by decide +kernel
theorem dX3_order_48 : decode cX3_order 48 = .ok (.iload_n 2, 1) := by decide +kernel
theorem dX3_order_49 : decode cX3_order 49 = .ok (.ifCond .ne 17, 3) := by decide +kernel
theorem dX3_order_52 : decode cX3_order 52 = .ok (.aload_n 0, 1) := by decide +kernel
theorem dX3_order_53 : decode cX3_order 53 = .ok (.getfield 63, 3) := by decide +kernel
theorem dX3_order_56 : decode cX3_order 56 = .ok (.i2l, 1) := by decide +kernel
theorem dX3_order_57 : decode cX3_order 57 = .ok (.aload_n 1, 1) := by decide +kernel
theorem dX3_order_58 : decode cX3_order 58 = .ok (.getfield 63, 3) := by decide +kernel
theorem dX3_order_61 : decode cX3_order 61 = .ok (.i2l, 1) := by decide +kernel
theorem dX3_order_62 : decode cX3_order 62 = .ok (.invokestatic 139, 3) := by decide +kernel
theorem dX3_order_65 : decode cX3_order 65 = .ok (.istore_n 2, 1) := by decide +kernel
theorem dX3_order_66 : decode cX3_order 66 = .ok (.iload_n 2, 1) := by decide +kernel
theorem dX3_order_67 : decode cX3_order 67 = .ok (.ifCond .ne 17, 3) := by decide +kernel
theorem dX3_order_70 : decode cX3_order 70 = .ok (.aload_n 0, 1) := by decide +kernel
theorem dX3_order_71 : decode cX3_order 71 = .ok (.getfield 67, 3) := by decide +kernel
theorem dX3_order_74 : decode cX3_order 74 = .ok (.i2l, 1) := by decide +kernel
theorem dX3_order_75 : decode cX3_order 75 = .ok (.aload_n 1, 1) := by decide +kernel
theorem dX3_order_76 : decode cX3_order 76 = .ok (.getfield 67, 3) := by decide +kernel
theorem dX3_order_79 : decode cX3_order 79 = .ok (.i2l, 1) := by decide +kernel
theorem dX3_order_80 : decode cX3_order 80 = .ok (.invokestatic 139, 3) := by decide +kernel
theorem dX3_order_83 : decode cX3_order 83 = .ok (.istore_n 2, 1) := by decide +kernel
theorem dX3_order_84 : decode cX3_order 84 = .ok (.iload_n 2, 1) := by decide +kernel
theorem dX3_order_85 : decode cX3_order 85 = .ok (.ifCond .ne 17, 3) := by decide +kernel
theorem dX3_order_88 : decode cX3_order 88 = .ok (.aload_n 0, 1) := by decide +kernel
theorem dX3_order_89 : decode cX3_order 89 = .ok (.getfield 70, 3) := by decide +kernel
theorem dX3_order_92 : decode cX3_order 92 = .ok (.i2l, 1) := by decide +kernel
theorem dX3_order_93 : decode cX3_order 93 = .ok (.aload_n 1, 1) := by decide +kernel
theorem dX3_order_94 : decode cX3_order 94 = .ok (.getfield 70, 3) := by decide +kernel
theorem dX3_order_97 : decode cX3_order 97 = .ok (.i2l, 1) := by decide +kernel
theorem dX3_order_98 : decode cX3_order 98 = .ok (.invokestatic 139, 3) := by decide +kernel
theorem dX3_order_101 : decode cX3_order 101 = .ok (.istore_n 2, 1) := by decide +kernel
theorem dX3_order_102 : decode cX3_order 102 = .ok (.iload_n 2, 1) := by decide +kernel
theorem dX3_order_103 : decode cX3_order 103 = .ok (.ifCond .ne 17, 3) := by decide +kernel
theorem dX3_order_106 : decode cX3_order 106 = .ok (.aload_n 0, 1) := by decide +kernel
theorem dX3_order_107 : decode cX3_order 107 = .ok (.getfield 146, 3) := by decide +kernel
theorem dX3_order_110 : decode cX3_order 110 = .ok (.i2l, 1) := by decide +kernel
theorem dX3_order_111 : decode cX3_order 111 = .ok (.aload_n 1, 1) := by decide +kernel
theorem dX3_order_112 : decode cX3_order 112 = .ok (.getfield 146, 3) := by decide +kernel
theorem dX3_order_115 : decode cX3_order 115 = .ok (.i2l, 1) := by decide +kernel
theorem dX3_order_116 : decode cX3_order 116 = .ok (.invokestatic 139, 3) := by decide +kernel
theorem dX3_order_119 : decode cX3_order 119 = .ok (.istore_n 2, 1) := by decide +kernel
theorem dX3_order_120 : decode cX3_order 120 = .ok (.iload_n 2, 1) := by decide +kernel
theorem dX3_order_121 : decode cX3_order 121 = .ok (.ifCond .ne 17, 3) := by decide +kernel
theorem dX3_order_124 : decode cX3_order 124 = .ok (.aload_n 0, 1) := by decide +kernel
theorem dX3_order_125 : decode cX3_order 125 = .ok (.getfield 149, 3) := by decide +kernel
theorem dX3_order_128 : decode cX3_order 128 = .ok (.aload_n 1, 1) := by decide +kernel
theorem dX3_order_129 : decode cX3_order 129 = .ok (.getfield 149, 3) := by decide +kernel
theorem dX3_order_132 : decode cX3_order 132 = .ok (.invokestatic 139, 3) := by decide +kernel
theorem dX3_order_135 : decode cX3_order 135 = .ok (.goto 4, 3) := by decide +kernel
theorem dX3_order_138 : decode cX3_order 138 = .ok (.iload_n 2, 1) := by decide +kernel
theorem dX3_order_139 : decode cX3_order 139 = .ok (.ireturn, 1) := by decide +kernel
theorem dX3_side_0 : decode cX3_side 0 = .ok (.lload_n 0, 1) := by decide +kernel
theorem dX3_side_1 : decode cX3_side 1 = .ok (.lload_n 2, 1) := by decide +kernel
theorem dX3_side_2 : decode cX3_side 2 = .ok (.lcmp, 1) := by decide +kernel
theorem dX3_side_3 : decode cX3_side 3 = .ok (.ifCond .ne 5, 3) := by decide +kernel
theorem dX3_side_6 : decode cX3_side 6 = .ok (.iconst 0, 1) := by decide +kernel
theorem dX3_side_7 : decode cX3_side 7 = .ok (.ireturn, 1) := by decide +kernel
theorem dX3_side_8 : decode cX3_side 8 = .ok (.lload_n 0, 1) := by decide +kernel
theorem dX3_side_9 : decode cX3_side 9 = .ok (.lload_n 2, 1) := by decide +kernel
theorem dX3_side_10 : decode cX3_side 10 = .ok (.lcmp, 1) := by decide +kernel
theorem dX3_side_11 : decode cX3_side 11 = .ok (.ifCond .ge 7, 3) := by decide +kernel
theorem dX3_side_14 : decode cX3_side 14 = .ok (.iconst (-1), 1) := by decide +kernel
theorem dX3_side_15 : decode cX3_side 15 = .ok (.goto 4, 3) := by decide +kernel
theorem dX3_side_18 : decode cX3_side 18 = .ok (.iconst 1, 1) := by decide +kernel
theorem dX3_side_19 : decode cX3_side 19 = .ok (.ireturn, 1) := by decide +kernel
