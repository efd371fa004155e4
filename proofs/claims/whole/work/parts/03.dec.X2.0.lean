theorem dX2_init_0 : decode cX2_init 0 = .ok (.aload_n 0, 1) := by decide +kernel
theorem dX2_init_1 : decode cX2_init 1 = .ok (.invokespecial 3, 3) := by decide +kernel
theorem dX2_init_4 : decode cX2_init 4 = .ok (.aload_n 0, 1) := by decide +kernel
theorem dX2_init_5 : decode cX2_init 5 = .ok (.bipush 60, 2) := by decide +kernel
theorem dX2_init_7 : decode cX2_init 7 = .ok (.anewarray 9, 3) := by decide +kernel
theorem dX2_init_10 : decode cX2_init 10 = .ok (.putfield 11, 3) := by decide +kernel
theorem dX2_init_13 : decode cX2_init 13 = .ok (.aload_n 0, 1) := by decide +kernel
theorem dX2_init_14 : decode cX2_init 14 = .ok (.bipush 60, 2) := by decide +kernel
theorem dX2_init_16 : decode cX2_init 16 = .ok (.newarray .int, 2) := by decide +kernel
theorem dX2_init_18 : decode cX2_init 18 = .ok (.putfield 17, 3) := by decide +kernel
theorem dX2_init_21 : decode cX2_init 21 = .ok (.return_, 1) := by decide +kernel
theorem dX2_has_0 : decode cX2_has 0 = .ok (.iload_n 1, 1) := by decide +kernel
theorem dX2_has_1 : decode cX2_has 1 = .ok (.ifCond .lt 21, 3) := by decide +kernel
theorem dX2_has_4 : decode cX2_has 4 = .ok (.iload_n 1, 1) := by decide +kernel
theorem dX2_has_5 : decode cX2_has 5 = .ok (.aload_n 0, 1) := by decide +kernel
theorem dX2_has_6 : decode cX2_has 6 = .ok (.getfield 21, 3) := by decide +kernel
theorem dX2_has_9 : decode cX2_has 9 = .ok (.if_icmp .ge 13, 3) := by decide +kernel
theorem dX2_has_12 : decode cX2_has 12 = .ok (.iload_n 1, 1) := by decide +kernel
theorem dX2_has_13 : decode cX2_has 13 = .ok (.bipush 60, 2) := by decide +kernel
theorem dX2_has_15 : decode cX2_has 15 = .ok (.if_icmp .ge 7, 3) := by decide +kernel
theorem dX2_has_18 : decode cX2_has 18 = .ok (.iconst 1, 1) := by decide +kernel
theorem dX2_has_19 : decode cX2_has 19 = .ok (.goto 4, 3) := by decide +kernel
theorem dX2_has_22 : decode cX2_has 22 = .ok (.iconst 0, 1) := by decide +kernel
theorem dX2_has_23 : decode cX2_has 23 = .ok (.ireturn, 1) := by decide +kernel
theorem dX2_numberAt_0 : decode cX2_numberAt 0 = .ok (.aload_n 0, 1) := by decide +kernel
theorem dX2_numberAt_1 : decode cX2_numberAt 1 = .ok (.iload_n 1, 1) := by decide +kernel
theorem dX2_numberAt_2 : decode cX2_numberAt 2 = .ok (.invokevirtual 25, 3) := by decide +kernel
theorem dX2_numberAt_5 : decode cX2_numberAt 5 = .ok (.ifCond .eq 12, 3) := by decide +kernel
theorem dX2_numberAt_8 : decode cX2_numberAt 8 = .ok (.aload_n 0, 1) := by decide +kernel
theorem dX2_numberAt_9 : decode cX2_numberAt 9 = .ok (.getfield 11, 3) := by decide +kernel
theorem dX2_numberAt_12 : decode cX2_numberAt 12 = .ok (.iload_n 1, 1) := by decide +kernel
theorem dX2_numberAt_13 : decode cX2_numberAt 13 = .ok (.aaload, 1) := by decide +kernel
theorem dX2_numberAt_14 : decode cX2_numberAt 14 = .ok (.goto 4, 3) := by decide +kernel
theorem dX2_numberAt_17 : decode cX2_numberAt 17 = .ok (.aconst_null, 1) := by decide +kernel
theorem dX2_numberAt_18 : decode cX2_numberAt 18 = .ok (.areturn, 1) := by decide +kernel
theorem dX2_recordAt_0 : decode cX2_recordAt 0 = .ok (.aload_n 0, 1) := by decide +kernel
theorem dX2_recordAt_1 : decode cX2_recordAt 1 = .ok (.iload_n 1, 1) := by decide +kernel
theorem dX2_recordAt_2 : decode cX2_recordAt 2 = .ok (.invokevirtual 25, 3) := by decide +kernel
theorem dX2_recordAt_5 : decode cX2_recordAt 5 = .ok (.ifCond .eq 12, 3) := by decide +kernel
theorem dX2_recordAt_8 : decode cX2_recordAt 8 = .ok (.aload_n 0, 1) := by decide +kernel
theorem dX2_recordAt_9 : decode cX2_recordAt 9 = .ok (.getfield 17, 3) := by decide +kernel
theorem dX2_recordAt_12 : decode cX2_recordAt 12 = .ok (.iload_n 1, 1) := by decide +kernel
theorem dX2_recordAt_13 : decode cX2_recordAt 13 = .ok (.iaload, 1) := by decide +kernel
theorem dX2_recordAt_14 : decode cX2_recordAt 14 = .ok (.goto 4, 3) := by decide +kernel
theorem dX2_recordAt_17 : decode cX2_recordAt 17 = .ok (.iconst (-1), 1) := by decide +kernel
theorem dX2_recordAt_18 : decode cX2_recordAt 18 = .ok (.ireturn, 1) := by decide +kernel
theorem dX2_countBefore_0 : decode cX2_countBefore 0 = .ok (.iconst 0, 1) := by decide +kernel
theorem dX2_countBefore_1 : decode cX2_countBefore 1 = .ok (.istore_n 2, 1) := by decide +kernel
theorem dX2_countBefore_2 : decode cX2_countBefore 2 = .ok (.iconst 0, 1) := by decide +kernel
theorem dX2_countBefore_3 : decode cX2_countBefore 3 = .ok (.istore_n 3, 1) := by decide +kernel
theorem dX2_countBefore_4 : decode cX2_countBefore 4 = .ok (.iload_n 3, 1) := by decide +kernel
theorem dX2_countBefore_5 : decode cX2_countBefore 5 = .ok (.aload_n 0, 1) := by decide +kernel
theorem dX2_countBefore_6 : decode cX2_countBefore 6 = .ok (.getfield 21, 3) := by decide +kernel
theorem dX2_countBefore_9 : decode cX2_countBefore 9 = .ok (.if_icmp .ge 33, 3) := by decide +kernel
theorem dX2_countBefore_12 : decode cX2_countBefore 12 = .ok (.aload_n 0, 1) := by decide +kernel
theorem dX2_countBefore_13 : decode cX2_countBefore 13 = .ok (.iload_n 3, 1) := by decide +kernel
theorem dX2_countBefore_14 : decode cX2_countBefore 14 = .ok (.invokevirtual 29, 3) := by decide +kernel
theorem dX2_countBefore_17 : decode cX2_countBefore 17 = .ok (.astore 4, 2) := by decide +kernel
theorem dX2_countBefore_19 : decode cX2_countBefore 19 = .ok (.aload 4, 2) := by decide +kernel
theorem dX2_countBefore_21 : decode cX2_countBefore 21 = .ok (.ifnull 15, 3) := by decide +kernel
theorem dX2_countBefore_24 : decode cX2_countBefore 24 = .ok (.aload 4, 2) := by decide +kernel
theorem dX2_countBefore_26 : decode cX2_countBefore 26 = .ok (.aload_n 1, 1) := by decide +kernel
theorem dX2_countBefore_27 : decode cX2_countBefore 27 = .ok (.invokestatic 33, 3) := by decide +kernel
theorem dX2_countBefore_30 : decode cX2_countBefore 30 = .ok (.ifCond .ge 6, 3) := by decide +kernel
theorem dX2_countBefore_33 : decode cX2_countBefore 33 = .ok (.iinc 2 1, 3) := by decide +kernel
theorem dX2_countBefore_36 : decode cX2_countBefore 36 = .ok (.iinc 3 1, 3) := by decide +kernel
theorem dX2_countBefore_39 : decode cX2_countBefore 39 = .ok (.goto (-35), 3) := by decide +kernel
theorem dX2_countBefore_42 : decode cX2_countBefore 42 = .ok (.iload_n 2, 1) := by decide +kernel
theorem dX2_countBefore_43 : decode cX2_countBefore 43 = .ok (.ireturn, 1) := by decide +kernel
theorem dX2_isSameAt_0 : decode cX2_isSameAt 0 = .ok (.aload_n 0, 1) := by decide +kernel
theorem dX2_isSameAt_1 : decode cX2_isSameAt 1 = .ok (.iload_n 1, 1) := by decide +kernel
theorem dX2_isSameAt_2 : decode cX2_isSameAt 2 = .ok (.invokevirtual 29, 3) := by decide +kernel
theorem dX2_isSameAt_5 : decode cX2_isSameAt 5 = .ok (.astore_n 3, 1) := by decide +kernel
theorem dX2_isSameAt_6 : decode cX2_isSameAt 6 = .ok (.aload_n 3, 1) := by decide +kernel
theorem dX2_isSameAt_7 : decode cX2_isSameAt 7 = .ok (.ifnull 15, 3) := by decide +kernel
theorem dX2_isSameAt_10 : decode cX2_isSameAt 10 = .ok (.aload_n 3, 1) := by decide +kernel
theorem dX2_isSameAt_11 : decode cX2_isSameAt 11 = .ok (.aload_n 2, 1) := by decide +kernel
theorem dX2_isSameAt_12 : decode cX2_isSameAt 12 = .ok (.invokestatic 33, 3) := by decide +kernel
theorem dX2_isSameAt_15 : decode cX2_isSameAt 15 = .ok (.ifCond .ne 7, 3) := by decide +kernel
theorem dX2_isSameAt_18 : decode cX2_isSameAt 18 = .ok (.iconst 1, 1) := by decide +kernel
theorem dX2_isSameAt_19 : decode cX2_isSameAt 19 = .ok (.goto 4, 3) := by decide +kernel
theorem dX2_isSameAt_22 : decode cX2_isSameAt 22 = .ok (.iconst 0, 1) := by decide +kernel
theorem dX2_isSameAt_23 : decode cX2_isSameAt 23 = .ok (.ireturn, 1) := by decide +kernel
theorem dX2_insert_0 : decode cX2_insert 0 = .ok (.aload_n 0, 1) := by decide +kernel
theorem dX2_insert_1 : decode cX2_insert 1 = .ok (.getfield 21, 3) := by decide +kernel
theorem dX2_insert_4 : decode cX2_insert 4 = .ok (.bipush 60, 2) := by decide +kernel
theorem dX2_insert_6 : decode cX2_insert 6 = .ok (.if_icmp .ge 15, 3) := by decide +kernel
theorem dX2_insert_9 : decode cX2_insert 9 = .ok (.iload_n 1, 1) := by decide +kernel
theorem dX2_insert_10 : decode cX2_insert 10 = .ok (.ifCond .lt 11, 3) := by decide +kernel
theorem dX2_insert_13 : decode cX2_insert 13 = .ok (.iload_n 1, 1) := by decide +kernel
theorem dX2_insert_14 : decode cX2_insert 14 = .ok (.aload_n 0, 1) := by decide +kernel
theorem dX2_insert_15 : decode cX2_insert 15 = .ok (.getfield 21, 3) := by decide +kernel
theorem dX2_insert_18 : decode cX2_insert 18 = .ok (.if_icmp .le 5, 3) := by decide +kernel
theorem dX2_insert_21 : decode cX2_insert 21 = .ok (.iconst 0, 1) := by decide +kernel
theorem dX2_insert_22 : decode cX2_insert 22 = .ok (.ireturn, 1) := by decide +kernel
theorem dX2_insert_23 : decode cX2_insert 23 = .ok (.aload_n 0, 1) := by decide +kernel
theorem dX2_insert_24 : decode cX2_insert 24 = .ok (.getfield 21, 3) := by decide +kernel
theorem dX2_insert_27 : decode cX2_insert 27 = .ok (.istore 4, 2) := by decide +kernel
theorem dX2_insert_29 : decode cX2_insert 29 = .ok (.iload 4, 2) := by decide +kernel
theorem dX2_insert_31 : decode cX2_insert 31 = .ok (.iload_n 1, 1) := by decide +kernel
theorem dX2_insert_32 : decode cX2_insert 32 = .ok (.if_icmp .le 41, 3) := by decide +kernel
theorem dX2_insert_35 : decode cX2_insert 35 = .ok (.aload_n 0, 1) := by decide +kernel
theorem dX2_insert_36 : decode cX2_insert 36 = .ok (.getfield 11, 3) := by decide +kernel
theorem dX2_insert_39 : decode cX2_insert 39 = .ok (.iload 4, 2) := by decide +kernel
theorem dX2_insert_41 : decode cX2_insert 41 = .ok (.aload_n 0, 1) := by decide +kernel
theorem dX2_insert_42 : decode cX2_insert 42 = .ok (.getfield 11, 3) := by decide +kernel
theorem dX2_insert_45 : decode cX2_insert 45 = .ok (.iload 4, 2) := by decide +kernel
theorem dX2_insert_47 : decode cX2_insert 47 = .ok (.iconst 1, 1) := by decide +kernel
theorem dX2_insert_48 : decode cX2_insert 48 = .ok (.isub, 1) := by decide +kernel
theorem dX2_insert_49 : decode cX2_insert 49 = .ok (.aaload, 1) := by decide +kernel
theorem dX2_insert_50 : decode cX2_insert 50 = .ok (.aastore, 1) := by decide +kernel
theorem dX2_insert_51 : decode cX2_insert 51 = .ok (.aload_n 0, 1) := by decide +kernel
theorem dX2_insert_52 : decode cX2_insert 52 = .ok (.getfield 17, 3) := by decide +kernel
theorem dX2_insert_55 : decode cX2_insert 55 = .ok (.iload 4, 2) := by decide +kernel
theorem dX2_insert_57 : decode cX2_insert 57 = .ok (.aload_n 0, 1) := by decide +kernel
theorem dX2_insert_58 : decode cX2_insert 58 = .ok (.getfield 17, 3) := by decide +kernel
theorem dX2_insert_61 : decode cX2_insert 61 = .ok (.iload 4, 2) := by decide +kernel
theorem dX2_insert_63 : decode cX2_insert 63 = .ok (.iconst 1, 1) := by decide +kernel
theorem dX2_insert_64 : decode cX2_insert 64 = .ok (.isub, 1) := by decide +kernel
theorem dX2_insert_65 : decode cX2_insert 65 = .ok (.iaload, 1) := by decide +kernel
theorem dX2_insert_66 : decode cX2_insert 66 = .ok (.iastore, 1) := by decide +kernel
theorem dX2_insert_67 : decode cX2_insert 67 = .ok (.iinc 4 (-1), 3) := by decide +kernel
theorem dX2_insert_70 : decode cX2_insert 70 = .ok (.goto (-41), 3) := by decide +kernel
theorem dX2_insert_73 : decode cX2_insert 73 = .ok (.aload_n 0, 1) := by decide +kernel
theorem dX2_insert_74 : decode cX2_insert 74 = .ok (.getfield 11, 3) := by decide +kernel
theorem dX2_insert_77 : decode cX2_insert 77 = .ok (.iload_n 1, 1) := by decide +kernel
theorem dX2_insert_78 : decode cX2_insert 78 = .ok (.aload_n 2, 1) := by decide +kernel
theorem dX2_insert_79 : decode cX2_insert 79 = .ok (.aastore, 1) := by decide +kernel
theorem dX2_insert_80 : decode cX2_insert 80 = .ok (.aload_n 0, 1) := by decide +kernel
theorem dX2_insert_81 : decode cX2_insert 81 = .ok (.getfield 17, 3) := by decide +kernel
theorem dX2_insert_84 : decode cX2_insert 84 = .ok (.iload_n 1, 1) := by decide +kernel
theorem dX2_insert_85 : decode cX2_insert 85 = .ok (.iload_n 3, 1) := by decide +kernel
theorem dX2_insert_86 : decode cX2_insert 86 = .ok (.iastore, 1) := by decide +kernel
theorem dX2_insert_87 : decode cX2_insert 87 = .ok (.aload_n 0, 1) := by decide +kernel
theorem dX2_insert_88 : decode cX2_insert 88 = .ok (.dup, 1) := by decide +kernel
theorem dX2_insert_89 : decode cX2_insert 89 = .ok (.getfield 21, 3) := by decide +kernel
theorem dX2_insert_92 : decode cX2_insert 92 = .ok (.iconst 1, 1) := by decide +kernel
theorem dX2_insert_93 : decode cX2_insert 93 = .ok (.iadd, 1) := by decide +kernel
theorem dX2_insert_94 : decode cX2_insert 94 = .ok (.putfield 21, 3) := by decide +kernel
theorem dX2_insert_97 : decode cX2_insert 97 = .ok (.iconst 1, 1) := by decide +kernel
theorem dX2_insert_98 : decode cX2_insert 98 = .ok (.ireturn, 1) := by decide +kernel
theorem dX2_remove_0 : decode cX2_remove 0 = .ok (.aload_n 0, 1) := by decide +kernel
theorem dX2_remove_1 : decode cX2_remove 1 = .ok (.iload_n 1, 1) := by decide +kernel
theorem dX2_remove_2 : decode cX2_remove 2 = .ok (.invokevirtual 25, 3) := by decide +kernel
theorem dX2_remove_5 : decode cX2_remove 5 = .ok (.ifCond .ne 4, 3) := by decide +kernel
theorem dX2_remove_8 : decode cX2_remove 8 = .ok (.return_, 1) := by decide +kernel
theorem dX2_remove_9 : decode cX2_remove 9 = .ok (.iload_n 1, 1) := by decide +kernel
theorem dX2_remove_10 : decode cX2_remove 10 = .ok (.istore_n 2, 1) := by decide +kernel
theorem dX2_remove_11 : decode cX2_remove 11 = .ok (.iload_n 2, 1) := by decide +kernel
theorem dX2_remove_12 : decode cX2_remove 12 = .ok (.aload_n 0, 1) := by decide +kernel
theorem dX2_remove_13 : decode cX2_remove 13 = .ok (.getfield 21, 3) := by decide +kernel
theorem dX2_remove_16 : decode cX2_remove 16 = .ok (.iconst 1, 1) := by decide +kernel
theorem dX2_remove_17 : decode cX2_remove 17 = .ok (.isub, 1) := by decide +kernel
theorem dX2_remove_18 : decode cX2_remove 18 = .ok (.if_icmp .ge 37, 3) := by decide +kernel
theorem dX2_remove_21 : decode cX2_remove 21 = .ok (.aload_n 0, 1) := by decide +kernel
theorem dX2_remove_22 : decode cX2_remove 22 = .ok (.getfield 11, 3) := by decide +kernel
theorem dX2_remove_25 : decode cX2_remove 25 = .ok (.iload_n 2, 1) := by decide +kernel
theorem dX2_remove_26 : decode cX2_remove 26 = .ok (.aload_n 0, 1) := by decide +kernel
theorem dX2_remove_27 : decode cX2_remove 27 = .ok (.getfield 11, 3) := by decide +kernel
theorem dX2_remove_30 : decode cX2_remove 30 = .ok (.iload_n 2, 1) := by decide +kernel
theorem dX2_remove_31 : decode cX2_remove 31 = .ok (.iconst 1, 1) := by decide +kernel
theorem dX2_remove_32 : decode cX2_remove 32 = .ok (.iadd, 1) := by decide +kernel
theorem dX2_remove_33 : decode cX2_remove 33 = .ok (.aaload, 1) := by decide +kernel
theorem dX2_remove_34 : decode cX2_remove 34 = .ok (.aastore, 1) := by decide +kernel
theorem dX2_remove_35 : decode cX2_remove 35 = .ok (.aload_n 0, 1) := by decide +kernel
theorem dX2_remove_36 : decode cX2_remove 36 = .ok (.getfield 17, 3) := by decide +kernel
theorem dX2_remove_39 : decode cX2_remove 39 = .ok (.iload_n 2, 1) := by decide +kernel
theorem dX2_remove_40 : decode cX2_remove 40 = .ok (.aload_n 0, 1) := by decide +kernel
theorem dX2_remove_41 : decode cX2_remove 41 = .ok (.getfield 17, 3) := by decide +kernel
theorem dX2_remove_44 : decode cX2_remove 44 = .ok (.iload_n 2, 1) := by decide +kernel
theorem dX2_remove_45 : decode cX2_remove 45 = .ok (.iconst 1, 1) := by decide +kernel
theorem dX2_remove_46 : decode cX2_remove 46 = .ok (.iadd, 1) := by decide +kernel
theorem dX2_remove_47 : decode cX2_remove 47 = .ok (.iaload, 1) := by decide +kernel
theorem dX2_remove_48 : decode cX2_remove 48 = .ok (.iastore, 1) := by decide +kernel
theorem dX2_remove_49 : decode cX2_remove 49 = .ok (.iinc 2 1, 3) := by decide +kernel
theorem dX2_remove_52 : decode cX2_remove 52 = .ok (.goto (-41), 3) := by decide +kernel
theorem dX2_remove_55 : decode cX2_remove 55 = .ok (.aload_n 0, 1) := by decide +kernel
theorem dX2_remove_56 : decode cX2_remove 56 = .ok (.dup, 1) := by decide +kernel
theorem dX2_remove_57 : decode cX2_remove 57 = .ok (.getfield 21, 3) := by decide +kernel
theorem dX2_remove_60 : decode cX2_remove 60 = .ok (.iconst 1, 1) := by decide +kernel
theorem dX2_remove_61 : decode cX2_remove 61 = .ok (.isub, 1) := by decide +kernel
theorem dX2_remove_62 : decode cX2_remove 62 = .ok (.putfield 21, 3) := by decide +kernel
theorem dX2_remove_65 : decode cX2_remove 65 = .ok (.aload_n 0, 1) := by decide +kernel
theorem dX2_remove_66 : decode cX2_remove 66 = .ok (.getfield 11, 3) := by decide +kernel
theorem dX2_remove_69 : decode cX2_remove 69 = .ok (.aload_n 0, 1) := by decide +kernel
theorem dX2_remove_70 : decode cX2_remove 70 = .ok (.getfield 21, 3) := by decide +kernel
theorem dX2_remove_73 : decode cX2_remove 73 = .ok (.aconst_null, 1) := by decide +kernel
theorem dX2_remove_74 : decode cX2_remove 74 = .ok (.aastore, 1) := by decide +kernel
theorem dX2_remove_75 : decode cX2_remove 75 = .ok (.return_, 1) := by decide +kernel
theorem dX2_firstWith_0 : decode cX2_firstWith 0 = .ok (.iconst 0, 1) := by decide +kernel
theorem dX2_firstWith_1 : decode cX2_firstWith 1 = .ok (.istore_n 2, 1) := by decide +kernel
theorem dX2_firstWith_2 : decode cX2_firstWith 2 = .ok (.iload_n 2, 1) := by decide +kernel
theorem dX2_firstWith_3 : decode cX2_firstWith 3 = .ok (.aload_n 0, 1) := by decide +kernel
theorem dX2_firstWith_4 : decode cX2_firstWith 4 = .ok (.getfield 21, 3) := by decide +kernel
theorem dX2_firstWith_7 : decode cX2_firstWith 7 = .ok (.if_icmp .ge 21, 3) := by decide +kernel
theorem dX2_firstWith_10 : decode cX2_firstWith 10 = .ok (.aload_n 0, 1) := by decide +kernel
theorem dX2_firstWith_11 : decode cX2_firstWith 11 = .ok (.getfield 17, 3) := by decide +kernel
theorem dX2_firstWith_14 : decode cX2_firstWith 14 = .ok (.iload_n 2, 1) := by decide +kernel
theorem dX2_firstWith_15 : decode cX2_firstWith 15 = .ok (.iaload, 1) := by decide +kernel
theorem dX2_firstWith_16 : decode cX2_firstWith 16 = .ok (.iload_n 1, 1) := by decide +kernel
theorem dX2_firstWith_17 : decode cX2_firstWith 17 = .ok (.if_icmp .ne 5, 3) := by decide +kernel
theorem dX2_firstWith_20 : decode cX2_firstWith 20 = .ok (.iload_n 2, 1) := by decide +kernel
theorem dX2_firstWith_21 : decode cX2_firstWith 21 = .ok (.ireturn, 1) := by decide +kernel
theorem dX2_firstWith_22 : decode cX2_firstWith 22 = .ok (.iinc 2 1, 3) := by decide +kernel
theorem dX2_firstWith_25 : decode cX2_firstWith 25 = .ok (.goto (-23), 3) := by decide +kernel
theorem dX2_firstWith_28 : decode cX2_firstWith 28 = .ok (.iconst (-1), 1) := by decide +kernel
theorem dX2_firstWith_29 : decode cX2_firstWith 29 = .ok (.ireturn, 1) := by decide +kernel
theorem dX2_hasCutter_0 : decode cX2_hasCutter 0 = .ok (.iconst 0, 1) := by decide +kernel
theorem dX2_hasCutter_1 : decode cX2_hasCutter 1 = .ok (.istore_n 3, 1) := by decide +kernel
theorem dX2_hasCutter_2 : decode cX2_hasCutter 2 = .ok (.iload_n 3, 1) := by decide +kernel
theorem dX2_hasCutter_3 : decode cX2_hasCutter 3 = .ok (.aload_n 0, 1) := by decide +kernel
theorem dX2_hasCutter_4 : decode cX2_hasCutter 4 = .ok (.getfield 21, 3) := by decide +kernel
theorem dX2_hasCutter_7 : decode cX2_hasCutter 7 = .ok (.if_icmp .ge 53, 3) := by decide +kernel
theorem dX2_hasCutter_10 : decode cX2_hasCutter 10 = .ok (.aload_n 0, 1) := by decide +kernel
theorem dX2_hasCutter_11 : decode cX2_hasCutter 11 = .ok (.iload_n 3, 1) := by decide +kernel
theorem dX2_hasCutter_12 : decode cX2_hasCutter 12 = .ok (.invokevirtual 29, 3) := by decide +kernel
theorem dX2_hasCutter_15 : decode cX2_hasCutter 15 = .ok (.astore 4, 2) := by decide +kernel
theorem dX2_hasCutter_17 : decode cX2_hasCutter 17 = .ok (.aload 4, 2) := by decide +kernel
theorem dX2_hasCutter_19 : decode cX2_hasCutter 19 = .ok (.ifnull 35, 3) := by decide +kernel
theorem dX2_hasCutter_22 : decode cX2_hasCutter 22 = .ok (.aload 4, 2) := by decide +kernel
theorem dX2_hasCutter_24 : decode cX2_hasCutter 24 = .ok (.aload_n 1, 1) := by decide +kernel
theorem dX2_hasCutter_25 : decode cX2_hasCutter 25 = .ok (.invokevirtual 37, 3) := by decide +kernel
theorem dX2_hasCutter_28 : decode cX2_hasCutter 28 = .ok (.ifCond .eq 26, 3) := by decide +kernel
theorem dX2_hasCutter_31 : decode cX2_hasCutter 31 = .ok (.aload 4, 2) := by decide +kernel
theorem dX2_hasCutter_33 : decode cX2_hasCutter 33 = .ok (.getfield 41, 3) := by decide +kernel
theorem dX2_hasCutter_36 : decode cX2_hasCutter 36 = .ok (.aload_n 1, 1) := by decide +kernel
theorem dX2_hasCutter_37 : decode cX2_hasCutter 37 = .ok (.getfield 41, 3) := by decide +kernel
theorem dX2_hasCutter_40 : decode cX2_hasCutter 40 = .ok (.if_icmp .ne 14, 3) := by decide +kernel
theorem dX2_hasCutter_43 : decode cX2_hasCutter 43 = .ok (.aload 4, 2) := by decide +kernel
theorem dX2_hasCutter_45 : decode cX2_hasCutter 45 = .ok (.getfield 44, 3) := by decide +kernel
theorem dX2_hasCutter_48 : decode cX2_hasCutter 48 = .ok (.iload_n 2, 1) := by decide +kernel
theorem dX2_hasCutter_49 : decode cX2_hasCutter 49 = .ok (.if_icmp .ne 5, 3) := by decide +kernel
theorem dX2_hasCutter_52 : decode cX2_hasCutter 52 = .ok (.iconst 1, 1) := by decide +kernel
theorem dX2_hasCutter_53 : decode cX2_hasCutter 53 = .ok (.ireturn, 1) := by decide +kernel
theorem dX2_hasCutter_54 : decode cX2_hasCutter 54 = .ok (.iinc 3 1, 3) := by decide +kernel
theorem dX2_hasCutter_57 : decode cX2_hasCutter 57 = .ok (.goto (-55), 3) := by decide +kernel
theorem dX2_hasCutter_60 : decode cX2_hasCutter 60 = .ok (.iconst 0, 1) := by decide +kernel
theorem dX2_hasCutter_61 : decode cX2_hasCutter 61 = .ok (.ireturn, 1) := by decide +kernel
