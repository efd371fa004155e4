theorem dX1_init_0 : decode cX1_init 0 = .ok (.aload_n 0, 1) := by decide +kernel
theorem dX1_init_1 : decode cX1_init 1 = .ok (.invokespecial 3, 3) := by decide +kernel
theorem dX1_init_4 : decode cX1_init 4 = .ok (.aload_n 0, 1) := by decide +kernel
theorem dX1_init_5 : decode cX1_init 5 = .ok (.bipush 60, 2) := by decide +kernel
theorem dX1_init_7 : decode cX1_init 7 = .ok (.newarray .int, 2) := by decide +kernel
theorem dX1_init_9 : decode cX1_init 9 = .ok (.putfield 9, 3) := by decide +kernel
theorem dX1_init_12 : decode cX1_init 12 = .ok (.aload_n 0, 1) := by decide +kernel
theorem dX1_init_13 : decode cX1_init 13 = .ok (.iload_n 1, 1) := by decide +kernel
theorem dX1_init_14 : decode cX1_init 14 = .ok (.putfield 15, 3) := by decide +kernel
theorem dX1_init_17 : decode cX1_init 17 = .ok (.return_, 1) := by decide +kernel
theorem dX1_collect_0 : decode cX1_collect 0 = .ok (.aload_n 0, 1) := by decide +kernel
theorem dX1_collect_1 : decode cX1_collect 1 = .ok (.getfield 19, 3) := by decide +kernel
theorem dX1_collect_4 : decode cX1_collect 4 = .ok (.aload_n 0, 1) := by decide +kernel
theorem dX1_collect_5 : decode cX1_collect 5 = .ok (.getfield 9, 3) := by decide +kernel
theorem dX1_collect_8 : decode cX1_collect 8 = .ok (.arraylength, 1) := by decide +kernel
theorem dX1_collect_9 : decode cX1_collect 9 = .ok (.if_icmp .ge 23, 3) := by decide +kernel
theorem dX1_collect_12 : decode cX1_collect 12 = .ok (.aload_n 0, 1) := by decide +kernel
theorem dX1_collect_13 : decode cX1_collect 13 = .ok (.getfield 9, 3) := by decide +kernel
theorem dX1_collect_16 : decode cX1_collect 16 = .ok (.aload_n 0, 1) := by decide +kernel
theorem dX1_collect_17 : decode cX1_collect 17 = .ok (.getfield 19, 3) := by decide +kernel
theorem dX1_collect_20 : decode cX1_collect 20 = .ok (.iload_n 1, 1) := by decide +kernel
theorem dX1_collect_21 : decode cX1_collect 21 = .ok (.iastore, 1) := by decide +kernel
theorem dX1_collect_22 : decode cX1_collect 22 = .ok (.aload_n 0, 1) := by decide +kernel
theorem dX1_collect_23 : decode cX1_collect 23 = .ok (.dup, 1) := by decide +kernel
theorem dX1_collect_24 : decode cX1_collect 24 = .ok (.getfield 19, 3) := by decide +kernel
theorem dX1_collect_27 : decode cX1_collect 27 = .ok (.iconst 1, 1) := by decide +kernel
theorem dX1_collect_28 : decode cX1_collect 28 = .ok (.iadd, 1) := by decide +kernel
theorem dX1_collect_29 : decode cX1_collect 29 = .ok (.putfield 19, 3) := by decide +kernel
theorem dX1_collect_32 : decode cX1_collect 32 = .ok (.return_, 1) := by decide +kernel
theorem dX1_forget_0 : decode cX1_forget 0 = .ok (.aload_n 0, 1) := by decide +kernel
theorem dX1_forget_1 : decode cX1_forget 1 = .ok (.iconst 0, 1) := by decide +kernel
theorem dX1_forget_2 : decode cX1_forget 2 = .ok (.putfield 19, 3) := by decide +kernel
theorem dX1_forget_5 : decode cX1_forget 5 = .ok (.return_, 1) := by decide +kernel
theorem dX1_place_0 : decode cX1_place 0 = .ok (.aload_n 0, 1) := by decide +kernel
theorem dX1_place_1 : decode cX1_place 1 = .ok (.getfield 23, 3) := by decide +kernel
theorem dX1_place_4 : decode cX1_place 4 = .ok (.ireturn, 1) := by decide +kernel
theorem dX1_readCollected_0 : decode cX1_readCollected 0 = .ok (.new 26, 3) := by decide +kernel
theorem dX1_readCollected_3 : decode cX1_readCollected 3 = .ok (.dup, 1) := by decide +kernel
theorem dX1_readCollected_4 : decode cX1_readCollected 4 = .ok (.invokespecial 28, 3) := by decide +kernel
theorem dX1_readCollected_7 : decode cX1_readCollected 7 = .ok (.astore_n 1, 1) := by decide +kernel
theorem dX1_readCollected_8 : decode cX1_readCollected 8 = .ok (.aload_n 0, 1) := by decide +kernel
theorem dX1_readCollected_9 : decode cX1_readCollected 9 = .ok (.iconst 0, 1) := by decide +kernel
theorem dX1_readCollected_10 : decode cX1_readCollected 10 = .ok (.putfield 23, 3) := by decide +kernel
theorem dX1_readCollected_13 : decode cX1_readCollected 13 = .ok (.aload_n 0, 1) := by decide +kernel
theorem dX1_readCollected_14 : decode cX1_readCollected 14 = .ok (.aload_n 1, 1) := by decide +kernel
theorem dX1_readCollected_15 : decode cX1_readCollected 15 = .ok (.invokevirtual 29, 3) := by decide +kernel
theorem dX1_readCollected_18 : decode cX1_readCollected 18 = .ok (.ifCond .eq 30, 3) := by decide +kernel
theorem dX1_readCollected_21 : decode cX1_readCollected 21 = .ok (.aload_n 0, 1) := by decide +kernel
theorem dX1_readCollected_22 : decode cX1_readCollected 22 = .ok (.invokevirtual 33, 3) := by decide +kernel
theorem dX1_readCollected_25 : decode cX1_readCollected 25 = .ok (.ifCond .eq 23, 3) := by decide +kernel
theorem dX1_readCollected_28 : decode cX1_readCollected 28 = .ok (.aload_n 0, 1) := by decide +kernel
theorem dX1_readCollected_29 : decode cX1_readCollected 29 = .ok (.aload_n 1, 1) := by decide +kernel
theorem dX1_readCollected_30 : decode cX1_readCollected 30 = .ok (.invokevirtual 37, 3) := by decide +kernel
theorem dX1_readCollected_33 : decode cX1_readCollected 33 = .ok (.ifCond .eq 15, 3) := by decide +kernel
theorem dX1_readCollected_36 : decode cX1_readCollected 36 = .ok (.aload_n 0, 1) := by decide +kernel
theorem dX1_readCollected_37 : decode cX1_readCollected 37 = .ok (.aload_n 1, 1) := by decide +kernel
theorem dX1_readCollected_38 : decode cX1_readCollected 38 = .ok (.invokevirtual 40, 3) := by decide +kernel
theorem dX1_readCollected_41 : decode cX1_readCollected 41 = .ok (.ifCond .eq 7, 3) := by decide +kernel
theorem dX1_readCollected_44 : decode cX1_readCollected 44 = .ok (.iconst 1, 1) := by decide +kernel
theorem dX1_readCollected_45 : decode cX1_readCollected 45 = .ok (.goto 4, 3) := by decide +kernel
theorem dX1_readCollected_48 : decode cX1_readCollected 48 = .ok (.iconst 0, 1) := by decide +kernel
theorem dX1_readCollected_49 : decode cX1_readCollected 49 = .ok (.istore_n 2, 1) := by decide +kernel
theorem dX1_readCollected_50 : decode cX1_readCollected 50 = .ok (.iload_n 2, 1) := by decide +kernel
theorem dX1_readCollected_51 : decode cX1_readCollected 51 = .ok (.ifCond .eq 7, 3) := by decide +kernel
theorem dX1_readCollected_54 : decode cX1_readCollected 54 = .ok (.aload_n 1, 1) := by decide +kernel
theorem dX1_readCollected_55 : decode cX1_readCollected 55 = .ok (.goto 4, 3) := by decide +kernel
theorem dX1_readCollected_58 : decode cX1_readCollected 58 = .ok (.aconst_null, 1) := by decide +kernel
theorem dX1_readCollected_59 : decode cX1_readCollected 59 = .ok (.areturn, 1) := by decide +kernel
theorem dX1_readClass_0 : decode cX1_readClass 0 = .ok (.aload_n 0, 1) := by decide +kernel
theorem dX1_readClass_1 : decode cX1_readClass 1 = .ok (.getfield 15, 3) := by decide +kernel
theorem dX1_readClass_4 : decode cX1_readClass 4 = .ok (.ifCond .eq 13, 3) := by decide +kernel
theorem dX1_readClass_7 : decode cX1_readClass 7 = .ok (.aload_n 0, 1) := by decide +kernel
theorem dX1_readClass_8 : decode cX1_readClass 8 = .ok (.aload_n 1, 1) := by decide +kernel
theorem dX1_readClass_9 : decode cX1_readClass 9 = .ok (.invokevirtual 43, 3) := by decide +kernel
theorem dX1_readClass_12 : decode cX1_readClass 12 = .ok (.ifCond .ne 5, 3) := by decide +kernel
theorem dX1_readClass_15 : decode cX1_readClass 15 = .ok (.iconst 0, 1) := by decide +kernel
theorem dX1_readClass_16 : decode cX1_readClass 16 = .ok (.ireturn, 1) := by decide +kernel
theorem dX1_readClass_17 : decode cX1_readClass 17 = .ok (.aload_n 0, 1) := by decide +kernel
theorem dX1_readClass_18 : decode cX1_readClass 18 = .ok (.getfield 23, 3) := by decide +kernel
theorem dX1_readClass_21 : decode cX1_readClass 21 = .ok (.istore_n 2, 1) := by decide +kernel
theorem dX1_readClass_22 : decode cX1_readClass 22 = .ok (.aload_n 0, 1) := by decide +kernel
theorem dX1_readClass_23 : decode cX1_readClass 23 = .ok (.getfield 15, 3) := by decide +kernel
theorem dX1_readClass_26 : decode cX1_readClass 26 = .ok (.ifCond .eq 12, 3) := by decide +kernel
theorem dX1_readClass_29 : decode cX1_readClass 29 = .ok (.aload_n 0, 1) := by decide +kernel
theorem dX1_readClass_30 : decode cX1_readClass 30 = .ok (.iconst 1, 1) := by decide +kernel
theorem dX1_readClass_31 : decode cX1_readClass 31 = .ok (.iconst 4, 1) := by decide +kernel
theorem dX1_readClass_32 : decode cX1_readClass 32 = .ok (.invokevirtual 46, 3) := by decide +kernel
theorem dX1_readClass_35 : decode cX1_readClass 35 = .ok (.goto 9, 3) := by decide +kernel
theorem dX1_readClass_38 : decode cX1_readClass 38 = .ok (.aload_n 0, 1) := by decide +kernel
theorem dX1_readClass_39 : decode cX1_readClass 39 = .ok (.iconst 3, 1) := by decide +kernel
theorem dX1_readClass_40 : decode cX1_readClass 40 = .ok (.iconst 3, 1) := by decide +kernel
theorem dX1_readClass_41 : decode cX1_readClass 41 = .ok (.invokevirtual 50, 3) := by decide +kernel
theorem dX1_readClass_44 : decode cX1_readClass 44 = .ok (.istore_n 3, 1) := by decide +kernel
theorem dX1_readClass_45 : decode cX1_readClass 45 = .ok (.aload_n 0, 1) := by decide +kernel
theorem dX1_readClass_46 : decode cX1_readClass 46 = .ok (.getfield 23, 3) := by decide +kernel
theorem dX1_readClass_49 : decode cX1_readClass 49 = .ok (.istore 4, 2) := by decide +kernel
theorem dX1_readClass_51 : decode cX1_readClass 51 = .ok (.aload_n 0, 1) := by decide +kernel
theorem dX1_readClass_52 : decode cX1_readClass 52 = .ok (.getfield 15, 3) := by decide +kernel
theorem dX1_readClass_55 : decode cX1_readClass 55 = .ok (.ifCond .eq 7, 3) := by decide +kernel
theorem dX1_readClass_58 : decode cX1_readClass 58 = .ok (.iconst 4, 1) := by decide +kernel
theorem dX1_readClass_59 : decode cX1_readClass 59 = .ok (.goto 5, 3) := by decide +kernel
theorem dX1_readClass_62 : decode cX1_readClass 62 = .ok (.bipush 9, 2) := by decide +kernel
theorem dX1_readClass_64 : decode cX1_readClass 64 = .ok (.istore 5, 2) := by decide +kernel
theorem dX1_readClass_66 : decode cX1_readClass 66 = .ok (.iload_n 3, 1) := by decide +kernel
theorem dX1_readClass_67 : decode cX1_readClass 67 = .ok (.ifCond .eq 12, 3) := by decide +kernel
theorem dX1_readClass_70 : decode cX1_readClass 70 = .ok (.aload_n 0, 1) := by decide +kernel
theorem dX1_readClass_71 : decode cX1_readClass 71 = .ok (.iload 5, 2) := by decide +kernel
theorem dX1_readClass_73 : decode cX1_readClass 73 = .ok (.invokevirtual 53, 3) := by decide +kernel
theorem dX1_readClass_76 : decode cX1_readClass 76 = .ok (.ifCond .ne 5, 3) := by decide +kernel
theorem dX1_readClass_79 : decode cX1_readClass 79 = .ok (.iconst 0, 1) := by decide +kernel
theorem dX1_readClass_80 : decode cX1_readClass 80 = .ok (.ireturn, 1) := by decide +kernel
theorem dX1_readClass_81 : decode cX1_readClass 81 = .ok (.aload_n 0, 1) := by decide +kernel
theorem dX1_readClass_82 : decode cX1_readClass 82 = .ok (.iload_n 2, 1) := by decide +kernel
theorem dX1_readClass_83 : decode cX1_readClass 83 = .ok (.iload 4, 2) := by decide +kernel
theorem dX1_readClass_85 : decode cX1_readClass 85 = .ok (.iload 4, 2) := by decide +kernel
theorem dX1_readClass_87 : decode cX1_readClass 87 = .ok (.iload_n 2, 1) := by decide +kernel
theorem dX1_readClass_88 : decode cX1_readClass 88 = .ok (.isub, 1) := by decide +kernel
theorem dX1_readClass_89 : decode cX1_readClass 89 = .ok (.invokevirtual 57, 3) := by decide +kernel
theorem dX1_readClass_92 : decode cX1_readClass 92 = .ok (.lstore 6, 2) := by decide +kernel
theorem dX1_readClass_94 : decode cX1_readClass 94 = .ok (.aload_n 1, 1) := by decide +kernel
theorem dX1_readClass_95 : decode cX1_readClass 95 = .ok (.lload 6, 2) := by decide +kernel
theorem dX1_readClass_97 : decode cX1_readClass 97 = .ok (.iload 5, 2) := by decide +kernel
theorem dX1_readClass_99 : decode cX1_readClass 99 = .ok (.invokestatic 61, 3) := by decide +kernel
theorem dX1_readClass_102 : decode cX1_readClass 102 = .ok (.lmul, 1) := by decide +kernel
theorem dX1_readClass_103 : decode cX1_readClass 103 = .ok (.aload_n 0, 1) := by decide +kernel
theorem dX1_readClass_104 : decode cX1_readClass 104 = .ok (.iload 4, 2) := by decide +kernel
theorem dX1_readClass_106 : decode cX1_readClass 106 = .ok (.iconst 1, 1) := by decide +kernel
theorem dX1_readClass_107 : decode cX1_readClass 107 = .ok (.iadd, 1) := by decide +kernel
theorem dX1_readClass_108 : decode cX1_readClass 108 = .ok (.aload_n 0, 1) := by decide +kernel
theorem dX1_readClass_109 : decode cX1_readClass 109 = .ok (.getfield 23, 3) := by decide +kernel
theorem dX1_readClass_112 : decode cX1_readClass 112 = .ok (.iload 5, 2) := by decide +kernel
theorem dX1_readClass_114 : decode cX1_readClass 114 = .ok (.invokevirtual 57, 3) := by decide +kernel
theorem dX1_readClass_117 : decode cX1_readClass 117 = .ok (.ladd, 1) := by decide +kernel
theorem dX1_readClass_118 : decode cX1_readClass 118 = .ok (.putfield 65, 3) := by decide +kernel
theorem dX1_readClass_121 : decode cX1_readClass 121 = .ok (.aload_n 1, 1) := by decide +kernel
theorem dX1_readClass_122 : decode cX1_readClass 122 = .ok (.aload_n 0, 1) := by decide +kernel
theorem dX1_readClass_123 : decode cX1_readClass 123 = .ok (.getfield 23, 3) := by decide +kernel
theorem dX1_readClass_126 : decode cX1_readClass 126 = .ok (.iload_n 2, 1) := by decide +kernel
theorem dX1_readClass_127 : decode cX1_readClass 127 = .ok (.isub, 1) := by decide +kernel
theorem dX1_readClass_128 : decode cX1_readClass 128 = .ok (.invokevirtual 69, 3) := by decide +kernel
theorem dX1_readClass_131 : decode cX1_readClass 131 = .ok (.iconst 1, 1) := by decide +kernel
theorem dX1_readClass_132 : decode cX1_readClass 132 = .ok (.ireturn, 1) := by decide +kernel
theorem dX1_readClassLetters_0 : decode cX1_readClassLetters 0 = .ok (.iconst 0, 1) := by decide +kernel
theorem dX1_readClassLetters_1 : decode cX1_readClassLetters 1 = .ok (.istore_n 2, 1) := by decide +kernel
theorem dX1_readClassLetters_2 : decode cX1_readClassLetters 2 = .ok (.aload_n 0, 1) := by decide +kernel
theorem dX1_readClassLetters_3 : decode cX1_readClassLetters 3 = .ok (.getfield 23, 3) := by decide +kernel
theorem dX1_readClassLetters_6 : decode cX1_readClassLetters 6 = .ok (.istore_n 3, 1) := by decide +kernel
theorem dX1_readClassLetters_7 : decode cX1_readClassLetters 7 = .ok (.iconst 0, 1) := by decide +kernel
theorem dX1_readClassLetters_8 : decode cX1_readClassLetters 8 = .ok (.istore 4, 2) := by decide +kernel
theorem dX1_readClassLetters_10 : decode cX1_readClassLetters 10 = .ok (.iload 4, 2) := by decide +kernel
theorem dX1_readClassLetters_12 : decode cX1_readClassLetters 12 = .ok (.iconst 3, 1) := by decide +kernel
theorem dX1_readClassLetters_13 : decode cX1_readClassLetters 13 = .ok (.if_icmp .ge 60, 3) := by decide +kernel
theorem dX1_readClassLetters_16 : decode cX1_readClassLetters 16 = .ok (.iload_n 2, 1) := by decide +kernel
theorem dX1_readClassLetters_17 : decode cX1_readClassLetters 17 = .ok (.bipush 8, 2) := by decide +kernel
theorem dX1_readClassLetters_19 : decode cX1_readClassLetters 19 = .ok (.ishl, 1) := by decide +kernel
theorem dX1_readClassLetters_20 : decode cX1_readClassLetters 20 = .ok (.istore_n 2, 1) := by decide +kernel
theorem dX1_readClassLetters_21 : decode cX1_readClassLetters 21 = .ok (.aload_n 0, 1) := by decide +kernel
theorem dX1_readClassLetters_22 : decode cX1_readClassLetters 22 = .ok (.getfield 23, 3) := by decide +kernel
theorem dX1_readClassLetters_25 : decode cX1_readClassLetters 25 = .ok (.iload_n 3, 1) := by decide +kernel
theorem dX1_readClassLetters_26 : decode cX1_readClassLetters 26 = .ok (.iload 4, 2) := by decide +kernel
theorem dX1_readClassLetters_28 : decode cX1_readClassLetters 28 = .ok (.iadd, 1) := by decide +kernel
theorem dX1_readClassLetters_29 : decode cX1_readClassLetters 29 = .ok (.if_icmp .ne 38, 3) := by decide +kernel
theorem dX1_readClassLetters_32 : decode cX1_readClassLetters 32 = .ok (.aload_n 0, 1) := by decide +kernel
theorem dX1_readClassLetters_33 : decode cX1_readClassLetters 33 = .ok (.aload_n 0, 1) := by decide +kernel
theorem dX1_readClassLetters_34 : decode cX1_readClassLetters 34 = .ok (.getfield 23, 3) := by decide +kernel
theorem dX1_readClassLetters_37 : decode cX1_readClassLetters 37 = .ok (.invokevirtual 73, 3) := by decide +kernel
theorem dX1_readClassLetters_40 : decode cX1_readClassLetters 40 = .ok (.invokestatic 77, 3) := by decide +kernel
theorem dX1_readClassLetters_43 : decode cX1_readClassLetters 43 = .ok (.ifCond .eq 24, 3) := by decide +kernel
theorem dX1_readClassLetters_46 : decode cX1_readClassLetters 46 = .ok (.iload_n 2, 1) := by decide +kernel
theorem dX1_readClassLetters_47 : decode cX1_readClassLetters 47 = .ok (.aload_n 0, 1) := by decide +kernel
theorem dX1_readClassLetters_48 : decode cX1_readClassLetters 48 = .ok (.aload_n 0, 1) := by decide +kernel
theorem dX1_readClassLetters_49 : decode cX1_readClassLetters 49 = .ok (.getfield 23, 3) := by decide +kernel
theorem dX1_readClassLetters_52 : decode cX1_readClassLetters 52 = .ok (.invokevirtual 73, 3) := by decide +kernel
theorem dX1_readClassLetters_55 : decode cX1_readClassLetters 55 = .ok (.ior, 1) := by decide +kernel
theorem dX1_readClassLetters_56 : decode cX1_readClassLetters 56 = .ok (.istore_n 2, 1) := by decide +kernel
theorem dX1_readClassLetters_57 : decode cX1_readClassLetters 57 = .ok (.aload_n 0, 1) := by decide +kernel
theorem dX1_readClassLetters_58 : decode cX1_readClassLetters 58 = .ok (.dup, 1) := by decide +kernel
theorem dX1_readClassLetters_59 : decode cX1_readClassLetters 59 = .ok (.getfield 23, 3) := by decide +kernel
theorem dX1_readClassLetters_62 : decode cX1_readClassLetters 62 = .ok (.iconst 1, 1) := by decide +kernel
theorem dX1_readClassLetters_63 : decode cX1_readClassLetters 63 = .ok (.iadd, 1) := by decide +kernel
theorem dX1_readClassLetters_64 : decode cX1_readClassLetters 64 = .ok (.putfield 23, 3) := by decide +kernel
theorem dX1_readClassLetters_67 : decode cX1_readClassLetters 67 = .ok (.iinc 4 1, 3) := by decide +kernel
theorem dX1_readClassLetters_70 : decode cX1_readClassLetters 70 = .ok (.goto (-60), 3) := by decide +kernel
theorem dX1_readClassLetters_73 : decode cX1_readClassLetters 73 = .ok (.aload_n 1, 1) := by decide +kernel
theorem dX1_readClassLetters_74 : decode cX1_readClassLetters 74 = .ok (.iload_n 2, 1) := by decide +kernel
theorem dX1_readClassLetters_75 : decode cX1_readClassLetters 75 = .ok (.putfield 80, 3) := by decide +kernel
theorem dX1_readClassLetters_78 : decode cX1_readClassLetters 78 = .ok (.aload_n 1, 1) := by decide +kernel
theorem dX1_readClassLetters_79 : decode cX1_readClassLetters 79 = .ok (.aload_n 0, 1) := by decide +kernel
theorem dX1_readClassLetters_80 : decode cX1_readClassLetters 80 = .ok (.getfield 23, 3) := by decide +kernel
theorem dX1_readClassLetters_83 : decode cX1_readClassLetters 83 = .ok (.iload_n 3, 1) := by decide +kernel
theorem dX1_readClassLetters_84 : decode cX1_readClassLetters 84 = .ok (.isub, 1) := by decide +kernel
theorem dX1_readClassLetters_85 : decode cX1_readClassLetters 85 = .ok (.putfield 83, 3) := by decide +kernel
theorem dX1_readClassLetters_88 : decode cX1_readClassLetters 88 = .ok (.aload_n 1, 1) := by decide +kernel
theorem dX1_readClassLetters_89 : decode cX1_readClassLetters 89 = .ok (.aload_n 0, 1) := by decide +kernel
theorem dX1_readClassLetters_90 : decode cX1_readClassLetters 90 = .ok (.getfield 23, 3) := by decide +kernel
theorem dX1_readClassLetters_93 : decode cX1_readClassLetters 93 = .ok (.iload_n 3, 1) := by decide +kernel
theorem dX1_readClassLetters_94 : decode cX1_readClassLetters 94 = .ok (.isub, 1) := by decide +kernel
theorem dX1_readClassLetters_95 : decode cX1_readClassLetters 95 = .ok (.invokevirtual 69, 3) := by decide +kernel
theorem dX1_readClassLetters_98 : decode cX1_readClassLetters 98 = .ok (.aload_n 0, 1) := by decide +kernel
theorem dX1_readClassLetters_99 : decode cX1_readClassLetters 99 = .ok (.getfield 23, 3) := by decide +kernel
theorem dX1_readClassLetters_102 : decode cX1_readClassLetters 102 = .ok (.iload_n 3, 1) := by decide +kernel
theorem dX1_readClassLetters_103 : decode cX1_readClassLetters 103 = .ok (.if_icmp .le 7, 3) := by decide +kernel
theorem dX1_readClassLetters_106 : decode cX1_readClassLetters 106 = .ok (.iconst 1, 1) := by decide +kernel
theorem dX1_readClassLetters_107 : decode cX1_readClassLetters 107 = .ok (.goto 4, 3) := by decide +kernel
theorem dX1_readClassLetters_110 : decode cX1_readClassLetters 110 = .ok (.iconst 0, 1) := by decide +kernel
theorem dX1_readClassLetters_111 : decode cX1_readClassLetters 111 = .ok (.ireturn, 1) := by decide +kernel
theorem dX1_readCutter_0 : decode cX1_readCutter 0 = .ok (.aload_n 0, 1) := by decide +kernel
theorem dX1_readCutter_1 : decode cX1_readCutter 1 = .ok (.getfield 23, 3) := by decide +kernel
theorem dX1_readCutter_4 : decode cX1_readCutter 4 = .ok (.istore_n 2, 1) := by decide +kernel
theorem dX1_readCutter_5 : decode cX1_readCutter 5 = .ok (.aload_n 0, 1) := by decide +kernel
theorem dX1_readCutter_6 : decode cX1_readCutter 6 = .ok (.iload_n 2, 1) := by decide +kernel
theorem dX1_readCutter_7 : decode cX1_readCutter 7 = .ok (.invokevirtual 73, 3) := by decide +kernel
theorem dX1_readCutter_10 : decode cX1_readCutter 10 = .ok (.invokestatic 77, 3) := by decide +kernel
theorem dX1_readCutter_13 : decode cX1_readCutter 13 = .ok (.ifCond .ne 5, 3) := by decide +kernel
theorem dX1_readCutter_16 : decode cX1_readCutter 16 = .ok (.iconst 0, 1) := by decide +kernel
theorem dX1_readCutter_17 : decode cX1_readCutter 17 = .ok (.ireturn, 1) := by decide +kernel
theorem dX1_readCutter_18 : decode cX1_readCutter 18 = .ok (.aload_n 0, 1) := by decide +kernel
theorem dX1_readCutter_19 : decode cX1_readCutter 19 = .ok (.dup, 1) := by decide +kernel
theorem dX1_readCutter_20 : decode cX1_readCutter 20 = .ok (.getfield 23, 3) := by decide +kernel
theorem dX1_readCutter_23 : decode cX1_readCutter 23 = .ok (.iconst 1, 1) := by decide +kernel
theorem dX1_readCutter_24 : decode cX1_readCutter 24 = .ok (.iadd, 1) := by decide +kernel
theorem dX1_readCutter_25 : decode cX1_readCutter 25 = .ok (.putfield 23, 3) := by decide +kernel
theorem dX1_readCutter_28 : decode cX1_readCutter 28 = .ok (.aload_n 0, 1) := by decide +kernel
theorem dX1_readCutter_29 : decode cX1_readCutter 29 = .ok (.bipush 6, 2) := by decide +kernel
theorem dX1_readCutter_31 : decode cX1_readCutter 31 = .ok (.invokevirtual 86, 3) := by decide +kernel
theorem dX1_readCutter_34 : decode cX1_readCutter 34 = .ok (.ifCond .ne 5, 3) := by decide +kernel
theorem dX1_readCutter_37 : decode cX1_readCutter 37 = .ok (.iconst 0, 1) := by decide +kernel
theorem dX1_readCutter_38 : decode cX1_readCutter 38 = .ok (.ireturn, 1) := by decide +kernel
theorem dX1_readCutter_39 : decode cX1_readCutter 39 = .ok (.aload_n 1, 1) := by decide +kernel
theorem dX1_readCutter_40 : decode cX1_readCutter 40 = .ok (.aload_n 0, 1) := by decide +kernel
theorem dX1_readCutter_41 : decode cX1_readCutter 41 = .ok (.iload_n 2, 1) := by decide +kernel
theorem dX1_readCutter_42 : decode cX1_readCutter 42 = .ok (.invokevirtual 73, 3) := by decide +kernel
theorem dX1_readCutter_45 : decode cX1_readCutter 45 = .ok (.putfield 89, 3) := by decide +kernel
theorem dX1_readCutter_48 : decode cX1_readCutter 48 = .ok (.aload_n 1, 1) := by decide +kernel
theorem dX1_readCutter_49 : decode cX1_readCutter 49 = .ok (.aload_n 0, 1) := by decide +kernel
theorem dX1_readCutter_50 : decode cX1_readCutter 50 = .ok (.iload_n 2, 1) := by decide +kernel
theorem dX1_readCutter_51 : decode cX1_readCutter 51 = .ok (.iconst 1, 1) := by decide +kernel
theorem dX1_readCutter_52 : decode cX1_readCutter 52 = .ok (.iadd, 1) := by decide +kernel
theorem dX1_readCutter_53 : decode cX1_readCutter 53 = .ok (.aload_n 0, 1) := by decide +kernel
theorem dX1_readCutter_54 : decode cX1_readCutter 54 = .ok (.getfield 23, 3) := by decide +kernel
theorem dX1_readCutter_57 : decode cX1_readCutter 57 = .ok (.bipush 6, 2) := by decide +kernel
theorem dX1_readCutter_59 : decode cX1_readCutter 59 = .ok (.invokevirtual 57, 3) := by decide +kernel
theorem dX1_readCutter_62 : decode cX1_readCutter 62 = .ok (.l2i, 1) := by decide +kernel
theorem dX1_readCutter_63 : decode cX1_readCutter 63 = .ok (.putfield 92, 3) := by decide +kernel
theorem dX1_readCutter_66 : decode cX1_readCutter 66 = .ok (.aload_n 1, 1) := by decide +kernel
theorem dX1_readCutter_67 : decode cX1_readCutter 67 = .ok (.aload_n 0, 1) := by decide +kernel
theorem dX1_readCutter_68 : decode cX1_readCutter 68 = .ok (.getfield 23, 3) := by decide +kernel
theorem dX1_readCutter_71 : decode cX1_readCutter 71 = .ok (.iload_n 2, 1) := by decide +kernel
theorem dX1_readCutter_72 : decode cX1_readCutter 72 = .ok (.isub, 1) := by decide +kernel
theorem dX1_readCutter_73 : decode cX1_readCutter 73 = .ok (.iconst 1, 1) := by decide +kernel
theorem dX1_readCutter_74 : decode cX1_readCutter 74 = .ok (.isub, 1) := by decide +kernel
theorem dX1_readCutter_75 : decode cX1_readCutter 75 = .ok (.putfield 95, 3) := by decide +kernel
theorem dX1_readCutter_78 : decode cX1_readCutter 78 = .ok (.aload_n 1, 1) := by decide +kernel
theorem dX1_readCutter_79 : decode cX1_readCutter 79 = .ok (.aload_n 0, 1) := by decide +kernel
theorem dX1_readCutter_80 : decode cX1_readCutter 80 = .ok (.getfield 23, 3) := by decide +kernel
theorem dX1_readCutter_83 : decode cX1_readCutter 83 = .ok (.iload_n 2, 1) := by decide +kernel
theorem dX1_readCutter_84 : decode cX1_readCutter 84 = .ok (.isub, 1) := by decide +kernel
theorem dX1_readCutter_85 : decode cX1_readCutter 85 = .ok (.invokevirtual 69, 3) := by decide +kernel
theorem dX1_readCutter_88 : decode cX1_readCutter 88 = .ok (.iconst 1, 1) := by decide +kernel
theorem dX1_readCutter_89 : decode cX1_readCutter 89 = .ok (.ireturn, 1) := by decide +kernel
theorem dX1_readRest_0 : decode cX1_readRest 0 = .ok (.iconst 1, 1) := by decide +kernel
theorem dX1_readRest_1 : decode cX1_readRest 1 = .ok (.istore_n 2, 1) := by decide +kernel
theorem dX1_readRest_2 : decode cX1_readRest 2 = .ok (.iconst 1, 1) := by decide +kernel
theorem dX1_readRest_3 : decode cX1_readRest 3 = .ok (.istore_n 3, 1) := by decide +kernel
theorem dX1_readRest_4 : decode cX1_readRest 4 = .ok (.iload_n 3, 1) := by decide +kernel
theorem dX1_readRest_5 : decode cX1_readRest 5 = .ok (.iconst 4, 1) := by decide +kernel
theorem dX1_readRest_6 : decode cX1_readRest 6 = .ok (.if_icmp .gt 88, 3) := by decide +kernel
theorem dX1_readRest_9 : decode cX1_readRest 9 = .ok (.aload_n 0, 1) := by decide +kernel
theorem dX1_readRest_10 : decode cX1_readRest 10 = .ok (.getfield 23, 3) := by decide +kernel
theorem dX1_readRest_13 : decode cX1_readRest 13 = .ok (.aload_n 0, 1) := by decide +kernel
theorem dX1_readRest_14 : decode cX1_readRest 14 = .ok (.getfield 19, 3) := by decide +kernel
theorem dX1_readRest_17 : decode cX1_readRest 17 = .ok (.if_icmp .ge 77, 3) := by decide +kernel
theorem dX1_readRest_20 : decode cX1_readRest 20 = .ok (.aload_n 0, 1) := by decide +kernel
theorem dX1_readRest_21 : decode cX1_readRest 21 = .ok (.invokevirtual 33, 3) := by decide +kernel
theorem dX1_readRest_24 : decode cX1_readRest 24 = .ok (.ifCond .ne 5, 3) := by decide +kernel
theorem dX1_readRest_27 : decode cX1_readRest 27 = .ok (.iconst 0, 1) := by decide +kernel
theorem dX1_readRest_28 : decode cX1_readRest 28 = .ok (.ireturn, 1) := by decide +kernel
theorem dX1_readRest_29 : decode cX1_readRest 29 = .ok (.aload_n 0, 1) := by decide +kernel
theorem dX1_readRest_30 : decode cX1_readRest 30 = .ok (.invokevirtual 98, 3) := by decide +kernel
theorem dX1_readRest_33 : decode cX1_readRest 33 = .ok (.istore 4, 2) := by decide +kernel
theorem dX1_readRest_35 : decode cX1_readRest 35 = .ok (.iload 4, 2) := by decide +kernel
theorem dX1_readRest_37 : decode cX1_readRest 37 = .ok (.iload_n 2, 1) := by decide +kernel
theorem dX1_readRest_38 : decode cX1_readRest 38 = .ok (.if_icmp .gt 5, 3) := by decide +kernel
theorem dX1_readRest_41 : decode cX1_readRest 41 = .ok (.iconst 0, 1) := by decide +kernel
theorem dX1_readRest_42 : decode cX1_readRest 42 = .ok (.ireturn, 1) := by decide +kernel
theorem dX1_readRest_43 : decode cX1_readRest 43 = .ok (.iload 4, 2) := by decide +kernel
theorem dX1_readRest_45 : decode cX1_readRest 45 = .ok (.iconst 2, 1) := by decide +kernel
theorem dX1_readRest_46 : decode cX1_readRest 46 = .ok (.if_icmp .ne 11, 3) := by decide +kernel
theorem dX1_readRest_49 : decode cX1_readRest 49 = .ok (.aload_n 0, 1) := by decide +kernel
theorem dX1_readRest_50 : decode cX1_readRest 50 = .ok (.aload_n 1, 1) := by decide +kernel
theorem dX1_readRest_51 : decode cX1_readRest 51 = .ok (.invokevirtual 102, 3) := by decide +kernel
theorem dX1_readRest_54 : decode cX1_readRest 54 = .ok (.goto 22, 3) := by decide +kernel
theorem dX1_readRest_57 : decode cX1_readRest 57 = .ok (.iload 4, 2) := by decide +kernel
theorem dX1_readRest_59 : decode cX1_readRest 59 = .ok (.iconst 3, 1) := by decide +kernel
theorem dX1_readRest_60 : decode cX1_readRest 60 = .ok (.if_icmp .ne 11, 3) := by decide +kernel
theorem dX1_readRest_63 : decode cX1_readRest 63 = .ok (.aload_n 0, 1) := by decide +kernel
theorem dX1_readRest_64 : decode cX1_readRest 64 = .ok (.aload_n 1, 1) := by decide +kernel
theorem dX1_readRest_65 : decode cX1_readRest 65 = .ok (.invokevirtual 105, 3) := by decide +kernel
theorem dX1_readRest_68 : decode cX1_readRest 68 = .ok (.goto 8, 3) := by decide +kernel
theorem dX1_readRest_71 : decode cX1_readRest 71 = .ok (.aload_n 0, 1) := by decide +kernel
theorem dX1_readRest_72 : decode cX1_readRest 72 = .ok (.aload_n 1, 1) := by decide +kernel
theorem dX1_readRest_73 : decode cX1_readRest 73 = .ok (.invokevirtual 108, 3) := by decide +kernel
theorem dX1_readRest_76 : decode cX1_readRest 76 = .ok (.istore 5, 2) := by decide +kernel
theorem dX1_readRest_78 : decode cX1_readRest 78 = .ok (.iload 5, 2) := by decide +kernel
theorem dX1_readRest_80 : decode cX1_readRest 80 = .ok (.ifCond .ne 5, 3) := by decide +kernel
theorem dX1_readRest_83 : decode cX1_readRest 83 = .ok (.iconst 0, 1) := by decide +kernel
theorem dX1_readRest_84 : decode cX1_readRest 84 = .ok (.ireturn, 1) := by decide +kernel
theorem dX1_readRest_85 : decode cX1_readRest 85 = .ok (.iload 4, 2) := by decide +kernel
theorem dX1_readRest_87 : decode cX1_readRest 87 = .ok (.istore_n 2, 1) := by decide +kernel
theorem dX1_readRest_88 : decode cX1_readRest 88 = .ok (.iinc 3 1, 3) := by decide +kernel
theorem dX1_readRest_91 : decode cX1_readRest 91 = .ok (.goto (-87), 3) := by decide +kernel
theorem dX1_readRest_94 : decode cX1_readRest 94 = .ok (.aload_n 0, 1) := by decide +kernel
theorem dX1_readRest_95 : decode cX1_readRest 95 = .ok (.getfield 23, 3) := by decide +kernel
theorem dX1_readRest_98 : decode cX1_readRest 98 = .ok (.aload_n 0, 1) := by decide +kernel
theorem dX1_readRest_99 : decode cX1_readRest 99 = .ok (.getfield 19, 3) := by decide +kernel
theorem dX1_readRest_102 : decode cX1_readRest 102 = .ok (.if_icmp .lt 7, 3) := by decide +kernel
theorem dX1_readRest_105 : decode cX1_readRest 105 = .ok (.iconst 1, 1) := by decide +kernel
theorem dX1_readRest_106 : decode cX1_readRest 106 = .ok (.goto 4, 3) := by decide +kernel
theorem dX1_readRest_109 : decode cX1_readRest 109 = .ok (.iconst 0, 1) := by decide +kernel
theorem dX1_readRest_110 : decode cX1_readRest 110 = .ok (.ireturn, 1) := by decide +kernel
theorem dX1_partThatBegins_0 : decode cX1_partThatBegins 0 = .ok (.aload_n 0, 1) := by decide +kernel
theorem dX1_partThatBegins_1 : decode cX1_partThatBegins 1 = .ok (.aload_n 0, 1) := by decide +kernel
theorem dX1_partThatBegins_2 : decode cX1_partThatBegins 2 = .ok (.getfield 23, 3) := by decide +kernel
theorem dX1_partThatBegins_5 : decode cX1_partThatBegins 5 = .ok (.invokevirtual 73, 3) := by decide +kernel
theorem dX1_partThatBegins_8 : decode cX1_partThatBegins 8 = .ok (.istore_n 1, 1) := by decide +kernel
theorem dX1_partThatBegins_9 : decode cX1_partThatBegins 9 = .ok (.iload_n 1, 1) := by decide +kernel
theorem dX1_partThatBegins_10 : decode cX1_partThatBegins 10 = .ok (.invokestatic 111, 3) := by decide +kernel
theorem dX1_partThatBegins_13 : decode cX1_partThatBegins 13 = .ok (.ifCond .eq 5, 3) := by decide +kernel
theorem dX1_partThatBegins_16 : decode cX1_partThatBegins 16 = .ok (.iconst 2, 1) := by decide +kernel
theorem dX1_partThatBegins_17 : decode cX1_partThatBegins 17 = .ok (.ireturn, 1) := by decide +kernel
theorem dX1_partThatBegins_18 : decode cX1_partThatBegins 18 = .ok (.iload_n 1, 1) := by decide +kernel
theorem dX1_partThatBegins_19 : decode cX1_partThatBegins 19 = .ok (.bipush 118, 2) := by decide +kernel
theorem dX1_partThatBegins_21 : decode cX1_partThatBegins 21 = .ok (.if_icmp .ne 20, 3) := by decide +kernel
theorem dX1_partThatBegins_24 : decode cX1_partThatBegins 24 = .ok (.aload_n 0, 1) := by decide +kernel
theorem dX1_partThatBegins_25 : decode cX1_partThatBegins 25 = .ok (.aload_n 0, 1) := by decide +kernel
theorem dX1_partThatBegins_26 : decode cX1_partThatBegins 26 = .ok (.getfield 23, 3) := by decide +kernel
theorem dX1_partThatBegins_29 : decode cX1_partThatBegins 29 = .ok (.iconst 1, 1) := by decide +kernel
theorem dX1_partThatBegins_30 : decode cX1_partThatBegins 30 = .ok (.iadd, 1) := by decide +kernel
theorem dX1_partThatBegins_31 : decode cX1_partThatBegins 31 = .ok (.invokevirtual 73, 3) := by decide +kernel
theorem dX1_partThatBegins_34 : decode cX1_partThatBegins 34 = .ok (.bipush 46, 2) := by decide +kernel
theorem dX1_partThatBegins_36 : decode cX1_partThatBegins 36 = .ok (.if_icmp .ne 5, 3) := by decide +kernel
theorem dX1_partThatBegins_39 : decode cX1_partThatBegins 39 = .ok (.iconst 3, 1) := by decide +kernel
theorem dX1_partThatBegins_40 : decode cX1_partThatBegins 40 = .ok (.ireturn, 1) := by decide +kernel
theorem dX1_partThatBegins_41 : decode cX1_partThatBegins 41 = .ok (.iload_n 1, 1) := by decide +kernel
theorem dX1_partThatBegins_42 : decode cX1_partThatBegins 42 = .ok (.invokestatic 114, 3) := by decide +kernel
theorem dX1_partThatBegins_45 : decode cX1_partThatBegins 45 = .ok (.ifCond .eq 7, 3) := by decide +kernel
theorem dX1_partThatBegins_48 : decode cX1_partThatBegins 48 = .ok (.iconst 4, 1) := by decide +kernel
theorem dX1_partThatBegins_49 : decode cX1_partThatBegins 49 = .ok (.goto 4, 3) := by decide +kernel
theorem dX1_partThatBegins_52 : decode cX1_partThatBegins 52 = .ok (.iconst (-1), 1) := by decide +kernel
theorem dX1_partThatBegins_53 : decode cX1_partThatBegins 53 = .ok (.ireturn, 1) := by decide +kernel
theorem dX1_readYear_0 : decode cX1_readYear 0 = .ok (.aload_n 0, 1) := by decide +kernel
theorem dX1_readYear_1 : decode cX1_readYear 1 = .ok (.getfield 23, 3) := by decide +kernel
theorem dX1_readYear_4 : decode cX1_readYear 4 = .ok (.istore_n 2, 1) := by decide +kernel
theorem dX1_readYear_5 : decode cX1_readYear 5 = .ok (.aload_n 0, 1) := by decide +kernel
theorem dX1_readYear_6 : decode cX1_readYear 6 = .ok (.iconst 4, 1) := by decide +kernel
theorem dX1_readYear_7 : decode cX1_readYear 7 = .ok (.iconst 4, 1) := by decide +kernel
theorem dX1_readYear_8 : decode cX1_readYear 8 = .ok (.invokevirtual 46, 3) := by decide +kernel
theorem dX1_readYear_11 : decode cX1_readYear 11 = .ok (.ifCond .ne 5, 3) := by decide +kernel
theorem dX1_readYear_14 : decode cX1_readYear 14 = .ok (.iconst 0, 1) := by decide +kernel
theorem dX1_readYear_15 : decode cX1_readYear 15 = .ok (.ireturn, 1) := by decide +kernel
theorem dX1_readYear_16 : decode cX1_readYear 16 = .ok (.aload_n 1, 1) := by decide +kernel
theorem dX1_readYear_17 : decode cX1_readYear 17 = .ok (.aload_n 0, 1) := by decide +kernel
theorem dX1_readYear_18 : decode cX1_readYear 18 = .ok (.iload_n 2, 1) := by decide +kernel
theorem dX1_readYear_19 : decode cX1_readYear 19 = .ok (.aload_n 0, 1) := by decide +kernel
theorem dX1_readYear_20 : decode cX1_readYear 20 = .ok (.getfield 23, 3) := by decide +kernel
theorem dX1_readYear_23 : decode cX1_readYear 23 = .ok (.iconst 4, 1) := by decide +kernel
theorem dX1_readYear_24 : decode cX1_readYear 24 = .ok (.invokevirtual 57, 3) := by decide +kernel
theorem dX1_readYear_27 : decode cX1_readYear 27 = .ok (.l2i, 1) := by decide +kernel
theorem dX1_readYear_28 : decode cX1_readYear 28 = .ok (.putfield 117, 3) := by decide +kernel
theorem dX1_readYear_31 : decode cX1_readYear 31 = .ok (.aload_n 1, 1) := by decide +kernel
theorem dX1_readYear_32 : decode cX1_readYear 32 = .ok (.aload_n 0, 1) := by decide +kernel
theorem dX1_readYear_33 : decode cX1_readYear 33 = .ok (.getfield 23, 3) := by decide +kernel
theorem dX1_readYear_36 : decode cX1_readYear 36 = .ok (.iload_n 2, 1) := by decide +kernel
theorem dX1_readYear_37 : decode cX1_readYear 37 = .ok (.isub, 1) := by decide +kernel
theorem dX1_readYear_38 : decode cX1_readYear 38 = .ok (.invokevirtual 69, 3) := by decide +kernel
theorem dX1_readYear_41 : decode cX1_readYear 41 = .ok (.iconst 1, 1) := by decide +kernel
theorem dX1_readYear_42 : decode cX1_readYear 42 = .ok (.ireturn, 1) := by decide +kernel
theorem dX1_readVolume_0 : decode cX1_readVolume 0 = .ok (.aload_n 0, 1) := by decide +kernel
theorem dX1_readVolume_1 : decode cX1_readVolume 1 = .ok (.getfield 23, 3) := by decide +kernel
theorem dX1_readVolume_4 : decode cX1_readVolume 4 = .ok (.istore_n 2, 1) := by decide +kernel
theorem dX1_readVolume_5 : decode cX1_readVolume 5 = .ok (.iload_n 2, 1) := by decide +kernel
theorem dX1_readVolume_6 : decode cX1_readVolume 6 = .ok (.iconst 2, 1) := by decide +kernel
theorem dX1_readVolume_7 : decode cX1_readVolume 7 = .ok (.iadd, 1) := by decide +kernel
theorem dX1_readVolume_8 : decode cX1_readVolume 8 = .ok (.istore_n 3, 1) := by decide +kernel
theorem dX1_readVolume_9 : decode cX1_readVolume 9 = .ok (.aload_n 0, 1) := by decide +kernel
theorem dX1_readVolume_10 : decode cX1_readVolume 10 = .ok (.iload_n 3, 1) := by decide +kernel
theorem dX1_readVolume_11 : decode cX1_readVolume 11 = .ok (.putfield 23, 3) := by decide +kernel
theorem dX1_readVolume_14 : decode cX1_readVolume 14 = .ok (.aload_n 0, 1) := by decide +kernel
theorem dX1_readVolume_15 : decode cX1_readVolume 15 = .ok (.iconst 1, 1) := by decide +kernel
theorem dX1_readVolume_16 : decode cX1_readVolume 16 = .ok (.iconst 4, 1) := by decide +kernel
theorem dX1_readVolume_17 : decode cX1_readVolume 17 = .ok (.invokevirtual 46, 3) := by decide +kernel
theorem dX1_readVolume_20 : decode cX1_readVolume 20 = .ok (.ifCond .ne 5, 3) := by decide +kernel
theorem dX1_readVolume_23 : decode cX1_readVolume 23 = .ok (.iconst 0, 1) := by decide +kernel
theorem dX1_readVolume_24 : decode cX1_readVolume 24 = .ok (.ireturn, 1) := by decide +kernel
theorem dX1_readVolume_25 : decode cX1_readVolume 25 = .ok (.aload_n 1, 1) := by decide +kernel
theorem dX1_readVolume_26 : decode cX1_readVolume 26 = .ok (.aload_n 0, 1) := by decide +kernel
theorem dX1_readVolume_27 : decode cX1_readVolume 27 = .ok (.iload_n 3, 1) := by decide +kernel
theorem dX1_readVolume_28 : decode cX1_readVolume 28 = .ok (.aload_n 0, 1) := by decide +kernel
theorem dX1_readVolume_29 : decode cX1_readVolume 29 = .ok (.getfield 23, 3) := by decide +kernel
theorem dX1_readVolume_32 : decode cX1_readVolume 32 = .ok (.aload_n 0, 1) := by decide +kernel
theorem dX1_readVolume_33 : decode cX1_readVolume 33 = .ok (.getfield 23, 3) := by decide +kernel
theorem dX1_readVolume_36 : decode cX1_readVolume 36 = .ok (.iload_n 3, 1) := by decide +kernel
theorem dX1_readVolume_37 : decode cX1_readVolume 37 = .ok (.isub, 1) := by decide +kernel
theorem dX1_readVolume_38 : decode cX1_readVolume 38 = .ok (.invokevirtual 57, 3) := by decide +kernel
theorem dX1_readVolume_41 : decode cX1_readVolume 41 = .ok (.l2i, 1) := by decide +kernel
theorem dX1_readVolume_42 : decode cX1_readVolume 42 = .ok (.putfield 120, 3) := by decide +kernel
theorem dX1_readVolume_45 : decode cX1_readVolume 45 = .ok (.aload_n 0, 1) := by decide +kernel
theorem dX1_readVolume_46 : decode cX1_readVolume 46 = .ok (.aload_n 0, 1) := by decide +kernel
theorem dX1_readVolume_47 : decode cX1_readVolume 47 = .ok (.getfield 23, 3) := by decide +kernel
theorem dX1_readVolume_50 : decode cX1_readVolume 50 = .ok (.invokevirtual 73, 3) := by decide +kernel
theorem dX1_readVolume_53 : decode cX1_readVolume 53 = .ok (.invokestatic 114, 3) := by decide +kernel
theorem dX1_readVolume_56 : decode cX1_readVolume 56 = .ok (.ifCond .eq 25, 3) := by decide +kernel
theorem dX1_readVolume_59 : decode cX1_readVolume 59 = .ok (.aload_n 1, 1) := by decide +kernel
theorem dX1_readVolume_60 : decode cX1_readVolume 60 = .ok (.aload_n 0, 1) := by decide +kernel
theorem dX1_readVolume_61 : decode cX1_readVolume 61 = .ok (.aload_n 0, 1) := by decide +kernel
theorem dX1_readVolume_62 : decode cX1_readVolume 62 = .ok (.getfield 23, 3) := by decide +kernel
theorem dX1_readVolume_65 : decode cX1_readVolume 65 = .ok (.invokevirtual 73, 3) := by decide +kernel
theorem dX1_readVolume_68 : decode cX1_readVolume 68 = .ok (.putfield 123, 3) := by decide +kernel
theorem dX1_readVolume_71 : decode cX1_readVolume 71 = .ok (.aload_n 0, 1) := by decide +kernel
theorem dX1_readVolume_72 : decode cX1_readVolume 72 = .ok (.dup, 1) := by decide +kernel
theorem dX1_readVolume_73 : decode cX1_readVolume 73 = .ok (.getfield 23, 3) := by decide +kernel
theorem dX1_readVolume_76 : decode cX1_readVolume 76 = .ok (.iconst 1, 1) := by decide +kernel
theorem dX1_readVolume_77 : decode cX1_readVolume 77 = .ok (.iadd, 1) := by decide +kernel
theorem dX1_readVolume_78 : decode cX1_readVolume 78 = .ok (.putfield 23, 3) := by decide +kernel
theorem dX1_readVolume_81 : decode cX1_readVolume 81 = .ok (.aload_n 1, 1) := by decide +kernel
theorem dX1_readVolume_82 : decode cX1_readVolume 82 = .ok (.aload_n 0, 1) := by decide +kernel
theorem dX1_readVolume_83 : decode cX1_readVolume 83 = .ok (.getfield 23, 3) := by decide +kernel
theorem dX1_readVolume_86 : decode cX1_readVolume 86 = .ok (.iload_n 2, 1) := by decide +kernel
theorem dX1_readVolume_87 : decode cX1_readVolume 87 = .ok (.isub, 1) := by decide +kernel
theorem dX1_readVolume_88 : decode cX1_readVolume 88 = .ok (.invokevirtual 69, 3) := by decide +kernel
theorem dX1_readVolume_91 : decode cX1_readVolume 91 = .ok (.iconst 1, 1) := by decide +kernel
theorem dX1_readVolume_92 : decode cX1_readVolume 92 = .ok (.ireturn, 1) := by decide +kernel
theorem dX1_readMark_0 : decode cX1_readMark 0 = .ok (.aload_n 0, 1) := by decide +kernel
theorem dX1_readMark_1 : decode cX1_readMark 1 = .ok (.getfield 23, 3) := by decide +kernel
theorem dX1_readMark_4 : decode cX1_readMark 4 = .ok (.istore_n 2, 1) := by decide +kernel
theorem dX1_readMark_5 : decode cX1_readMark 5 = .ok (.lconst 0, 1) := by decide +kernel
theorem dX1_readMark_6 : decode cX1_readMark 6 = .ok (.lstore_n 3, 1) := by decide +kernel
theorem dX1_readMark_7 : decode cX1_readMark 7 = .ok (.iconst 0, 1) := by decide +kernel
theorem dX1_readMark_8 : decode cX1_readMark 8 = .ok (.istore 5, 2) := by decide +kernel
theorem dX1_readMark_10 : decode cX1_readMark 10 = .ok (.iload 5, 2) := by decide +kernel
theorem dX1_readMark_12 : decode cX1_readMark 12 = .ok (.bipush 8, 2) := by decide +kernel
theorem dX1_readMark_14 : decode cX1_readMark 14 = .ok (.if_icmp .ge 61, 3) := by decide +kernel
theorem dX1_readMark_17 : decode cX1_readMark 17 = .ok (.lload_n 3, 1) := by decide +kernel
theorem dX1_readMark_18 : decode cX1_readMark 18 = .ok (.bipush 8, 2) := by decide +kernel
theorem dX1_readMark_20 : decode cX1_readMark 20 = .ok (.lshl, 1) := by decide +kernel
theorem dX1_readMark_21 : decode cX1_readMark 21 = .ok (.lstore_n 3, 1) := by decide +kernel
theorem dX1_readMark_22 : decode cX1_readMark 22 = .ok (.aload_n 0, 1) := by decide +kernel
theorem dX1_readMark_23 : decode cX1_readMark 23 = .ok (.getfield 23, 3) := by decide +kernel
theorem dX1_readMark_26 : decode cX1_readMark 26 = .ok (.iload_n 2, 1) := by decide +kernel
theorem dX1_readMark_27 : decode cX1_readMark 27 = .ok (.iload 5, 2) := by decide +kernel
theorem dX1_readMark_29 : decode cX1_readMark 29 = .ok (.iadd, 1) := by decide +kernel
theorem dX1_readMark_30 : decode cX1_readMark 30 = .ok (.if_icmp .ne 39, 3) := by decide +kernel
theorem dX1_readMark_33 : decode cX1_readMark 33 = .ok (.aload_n 0, 1) := by decide +kernel
theorem dX1_readMark_34 : decode cX1_readMark 34 = .ok (.aload_n 0, 1) := by decide +kernel
theorem dX1_readMark_35 : decode cX1_readMark 35 = .ok (.getfield 23, 3) := by decide +kernel
theorem dX1_readMark_38 : decode cX1_readMark 38 = .ok (.invokevirtual 73, 3) := by decide +kernel
theorem dX1_readMark_41 : decode cX1_readMark 41 = .ok (.invokestatic 114, 3) := by decide +kernel
theorem dX1_readMark_44 : decode cX1_readMark 44 = .ok (.ifCond .eq 25, 3) := by decide +kernel
theorem dX1_readMark_47 : decode cX1_readMark 47 = .ok (.lload_n 3, 1) := by decide +kernel
theorem dX1_readMark_48 : decode cX1_readMark 48 = .ok (.aload_n 0, 1) := by decide +kernel
theorem dX1_readMark_49 : decode cX1_readMark 49 = .ok (.aload_n 0, 1) := by decide +kernel
theorem dX1_readMark_50 : decode cX1_readMark 50 = .ok (.getfield 23, 3) := by decide +kernel
theorem dX1_readMark_53 : decode cX1_readMark 53 = .ok (.invokevirtual 73, 3) := by decide +kernel
theorem dX1_readMark_56 : decode cX1_readMark 56 = .ok (.i2l, 1) := by decide +kernel
theorem dX1_readMark_57 : decode cX1_readMark 57 = .ok (.lor, 1) := by decide +kernel
theorem dX1_readMark_58 : decode cX1_readMark 58 = .ok (.lstore_n 3, 1) := by decide +kernel
theorem dX1_readMark_59 : decode cX1_readMark 59 = .ok (.aload_n 0, 1) := by decide +kernel
theorem dX1_readMark_60 : decode cX1_readMark 60 = .ok (.dup, 1) := by decide +kernel
theorem dX1_readMark_61 : decode cX1_readMark 61 = .ok (.getfield 23, 3) := by decide +kernel
theorem dX1_readMark_64 : decode cX1_readMark 64 = .ok (.iconst 1, 1) := by decide +kernel
theorem dX1_readMark_65 : decode cX1_readMark 65 = .ok (.iadd, 1) := by decide +kernel
theorem dX1_readMark_66 : decode cX1_readMark 66 = .ok (.putfield 23, 3) := by decide +kernel
theorem dX1_readMark_69 : decode cX1_readMark 69 = .ok (.iinc 5 1, 3) := by decide +kernel
theorem dX1_readMark_72 : decode cX1_readMark 72 = .ok (.goto (-62), 3) := by decide +kernel
theorem dX1_readMark_75 : decode cX1_readMark 75 = .ok (.aload_n 1, 1) := by decide +kernel
theorem dX1_readMark_76 : decode cX1_readMark 76 = .ok (.lload_n 3, 1) := by decide +kernel
theorem dX1_readMark_77 : decode cX1_readMark 77 = .ok (.putfield 126, 3) := by decide +kernel
theorem dX1_readMark_80 : decode cX1_readMark 80 = .ok (.aload_n 1, 1) := by decide +kernel
theorem dX1_readMark_81 : decode cX1_readMark 81 = .ok (.aload_n 0, 1) := by decide +kernel
theorem dX1_readMark_82 : decode cX1_readMark 82 = .ok (.getfield 23, 3) := by decide +kernel
theorem dX1_readMark_85 : decode cX1_readMark 85 = .ok (.iload_n 2, 1) := by decide +kernel
theorem dX1_readMark_86 : decode cX1_readMark 86 = .ok (.isub, 1) := by decide +kernel
theorem dX1_readMark_87 : decode cX1_readMark 87 = .ok (.putfield 129, 3) := by decide +kernel
theorem dX1_readMark_90 : decode cX1_readMark 90 = .ok (.aload_n 1, 1) := by decide +kernel
theorem dX1_readMark_91 : decode cX1_readMark 91 = .ok (.aload_n 0, 1) := by decide +kernel
theorem dX1_readMark_92 : decode cX1_readMark 92 = .ok (.getfield 23, 3) := by decide +kernel
theorem dX1_readMark_95 : decode cX1_readMark 95 = .ok (.iload_n 2, 1) := by decide +kernel
theorem dX1_readMark_96 : decode cX1_readMark 96 = .ok (.isub, 1) := by decide +kernel
theorem dX1_readMark_97 : decode cX1_readMark 97 = .ok (.invokevirtual 69, 3) := by decide +kernel
theorem dX1_readMark_100 : decode cX1_readMark 100 = .ok (.aload_n 0, 1) := by decide +kernel
theorem dX1_readMark_101 : decode cX1_readMark 101 = .ok (.getfield 23, 3) := by decide +kernel
theorem dX1_readMark_104 : decode cX1_readMark 104 = .ok (.iload_n 2, 1) := by decide +kernel
theorem dX1_readMark_105 : decode cX1_readMark 105 = .ok (.if_icmp .le 7, 3) := by decide +kernel
theorem dX1_readMark_108 : decode cX1_readMark 108 = .ok (.iconst 1, 1) := by decide +kernel
theorem dX1_readMark_109 : decode cX1_readMark 109 = .ok (.goto 4, 3) := by decide +kernel
theorem dX1_readMark_112 : decode cX1_readMark 112 = .ok (.iconst 0, 1) := by decide +kernel
theorem dX1_readMark_113 : decode cX1_readMark 113 = .ok (.ireturn, 1) := by decide +kernel
theorem dX1_readSpace_0 : decode cX1_readSpace 0 = .ok (.aload_n 0, 1) := by decide +kernel
theorem dX1_readSpace_1 : decode cX1_readSpace 1 = .ok (.aload_n 0, 1) := by decide +kernel
theorem dX1_readSpace_2 : decode cX1_readSpace 2 = .ok (.getfield 23, 3) := by decide +kernel
theorem dX1_readSpace_5 : decode cX1_readSpace 5 = .ok (.invokevirtual 73, 3) := by decide +kernel
theorem dX1_readSpace_8 : decode cX1_readSpace 8 = .ok (.bipush 32, 2) := by decide +kernel
theorem dX1_readSpace_10 : decode cX1_readSpace 10 = .ok (.if_icmp .eq 5, 3) := by decide +kernel
theorem dX1_readSpace_13 : decode cX1_readSpace 13 = .ok (.iconst 0, 1) := by decide +kernel
theorem dX1_readSpace_14 : decode cX1_readSpace 14 = .ok (.ireturn, 1) := by decide +kernel
theorem dX1_readSpace_15 : decode cX1_readSpace 15 = .ok (.aload_n 0, 1) := by decide +kernel
theorem dX1_readSpace_16 : decode cX1_readSpace 16 = .ok (.dup, 1) := by decide +kernel
theorem dX1_readSpace_17 : decode cX1_readSpace 17 = .ok (.getfield 23, 3) := by decide +kernel
theorem dX1_readSpace_20 : decode cX1_readSpace 20 = .ok (.iconst 1, 1) := by decide +kernel
theorem dX1_readSpace_21 : decode cX1_readSpace 21 = .ok (.iadd, 1) := by decide +kernel
theorem dX1_readSpace_22 : decode cX1_readSpace 22 = .ok (.putfield 23, 3) := by decide +kernel
theorem dX1_readSpace_25 : decode cX1_readSpace 25 = .ok (.iconst 1, 1) := by decide +kernel
theorem dX1_readSpace_26 : decode cX1_readSpace 26 = .ok (.ireturn, 1) := by decide +kernel
theorem dX1_readFraction_0 : decode cX1_readFraction 0 = .ok (.aload_n 0, 1) := by decide +kernel
theorem dX1_readFraction_1 : decode cX1_readFraction 1 = .ok (.aload_n 0, 1) := by decide +kernel
theorem dX1_readFraction_2 : decode cX1_readFraction 2 = .ok (.getfield 23, 3) := by decide +kernel
theorem dX1_readFraction_5 : decode cX1_readFraction 5 = .ok (.invokevirtual 73, 3) := by decide +kernel
theorem dX1_readFraction_8 : decode cX1_readFraction 8 = .ok (.bipush 46, 2) := by decide +kernel
theorem dX1_readFraction_10 : decode cX1_readFraction 10 = .ok (.if_icmp .eq 5, 3) := by decide +kernel
theorem dX1_readFraction_13 : decode cX1_readFraction 13 = .ok (.iconst 1, 1) := by decide +kernel
theorem dX1_readFraction_14 : decode cX1_readFraction 14 = .ok (.ireturn, 1) := by decide +kernel
theorem dX1_readFraction_15 : decode cX1_readFraction 15 = .ok (.aload_n 0, 1) := by decide +kernel
theorem dX1_readFraction_16 : decode cX1_readFraction 16 = .ok (.dup, 1) := by decide +kernel
theorem dX1_readFraction_17 : decode cX1_readFraction 17 = .ok (.getfield 23, 3) := by decide +kernel
theorem dX1_readFraction_20 : decode cX1_readFraction 20 = .ok (.iconst 1, 1) := by decide +kernel
theorem dX1_readFraction_21 : decode cX1_readFraction 21 = .ok (.iadd, 1) := by decide +kernel
theorem dX1_readFraction_22 : decode cX1_readFraction 22 = .ok (.putfield 23, 3) := by decide +kernel
theorem dX1_readFraction_25 : decode cX1_readFraction 25 = .ok (.aload_n 0, 1) := by decide +kernel
theorem dX1_readFraction_26 : decode cX1_readFraction 26 = .ok (.iload_n 1, 1) := by decide +kernel
theorem dX1_readFraction_27 : decode cX1_readFraction 27 = .ok (.invokevirtual 86, 3) := by decide +kernel
theorem dX1_readFraction_30 : decode cX1_readFraction 30 = .ok (.ireturn, 1) := by decide +kernel
theorem dX1_readDecimals_0 : decode cX1_readDecimals 0 = .ok (.aload_n 0, 1) := by decide +kernel
theorem dX1_readDecimals_1 : decode cX1_readDecimals 1 = .ok (.iconst 1, 1) := by decide +kernel
theorem dX1_readDecimals_2 : decode cX1_readDecimals 2 = .ok (.iload_n 1, 1) := by decide +kernel
theorem dX1_readDecimals_3 : decode cX1_readDecimals 3 = .ok (.invokevirtual 50, 3) := by decide +kernel
theorem dX1_readDecimals_6 : decode cX1_readDecimals 6 = .ok (.ifCond .ne 5, 3) := by decide +kernel
theorem dX1_readDecimals_9 : decode cX1_readDecimals 9 = .ok (.iconst 0, 1) := by decide +kernel
theorem dX1_readDecimals_10 : decode cX1_readDecimals 10 = .ok (.ireturn, 1) := by decide +kernel
theorem dX1_readDecimals_11 : decode cX1_readDecimals 11 = .ok (.aload_n 0, 1) := by decide +kernel
theorem dX1_readDecimals_12 : decode cX1_readDecimals 12 = .ok (.aload_n 0, 1) := by decide +kernel
theorem dX1_readDecimals_13 : decode cX1_readDecimals 13 = .ok (.getfield 23, 3) := by decide +kernel
theorem dX1_readDecimals_16 : decode cX1_readDecimals 16 = .ok (.iconst 1, 1) := by decide +kernel
theorem dX1_readDecimals_17 : decode cX1_readDecimals 17 = .ok (.isub, 1) := by decide +kernel
theorem dX1_readDecimals_18 : decode cX1_readDecimals 18 = .ok (.invokevirtual 73, 3) := by decide +kernel
theorem dX1_readDecimals_21 : decode cX1_readDecimals 21 = .ok (.bipush 48, 2) := by decide +kernel
theorem dX1_readDecimals_23 : decode cX1_readDecimals 23 = .ok (.if_icmp .ne 15, 3) := by decide +kernel
theorem dX1_readDecimals_26 : decode cX1_readDecimals 26 = .ok (.aload_n 0, 1) := by decide +kernel
theorem dX1_readDecimals_27 : decode cX1_readDecimals 27 = .ok (.dup, 1) := by decide +kernel
theorem dX1_readDecimals_28 : decode cX1_readDecimals 28 = .ok (.getfield 23, 3) := by decide +kernel
theorem dX1_readDecimals_31 : decode cX1_readDecimals 31 = .ok (.iconst 1, 1) := by decide +kernel
theorem dX1_readDecimals_32 : decode cX1_readDecimals 32 = .ok (.isub, 1) := by decide +kernel
theorem dX1_readDecimals_33 : decode cX1_readDecimals 33 = .ok (.putfield 23, 3) := by decide +kernel
theorem dX1_readDecimals_36 : decode cX1_readDecimals 36 = .ok (.iconst 0, 1) := by decide +kernel
theorem dX1_readDecimals_37 : decode cX1_readDecimals 37 = .ok (.ireturn, 1) := by decide +kernel
theorem dX1_readDecimals_38 : decode cX1_readDecimals 38 = .ok (.iconst 1, 1) := by decide +kernel
theorem dX1_readDecimals_39 : decode cX1_readDecimals 39 = .ok (.ireturn, 1) := by decide +kernel
theorem dX1_readNumber_0 : decode cX1_readNumber 0 = .ok (.aload_n 0, 1) := by decide +kernel
theorem dX1_readNumber_1 : decode cX1_readNumber 1 = .ok (.aload_n 0, 1) := by decide +kernel
theorem dX1_readNumber_2 : decode cX1_readNumber 2 = .ok (.getfield 23, 3) := by decide +kernel
theorem dX1_readNumber_5 : decode cX1_readNumber 5 = .ok (.invokevirtual 73, 3) := by decide +kernel
theorem dX1_readNumber_8 : decode cX1_readNumber 8 = .ok (.bipush 48, 2) := by decide +kernel
theorem dX1_readNumber_10 : decode cX1_readNumber 10 = .ok (.if_icmp .eq 16, 3) := by decide +kernel
theorem dX1_readNumber_13 : decode cX1_readNumber 13 = .ok (.aload_n 0, 1) := by decide +kernel
theorem dX1_readNumber_14 : decode cX1_readNumber 14 = .ok (.iload_n 1, 1) := by decide +kernel
theorem dX1_readNumber_15 : decode cX1_readNumber 15 = .ok (.iload_n 2, 1) := by decide +kernel
theorem dX1_readNumber_16 : decode cX1_readNumber 16 = .ok (.invokevirtual 50, 3) := by decide +kernel
theorem dX1_readNumber_19 : decode cX1_readNumber 19 = .ok (.ifCond .eq 7, 3) := by decide +kernel
theorem dX1_readNumber_22 : decode cX1_readNumber 22 = .ok (.iconst 1, 1) := by decide +kernel
theorem dX1_readNumber_23 : decode cX1_readNumber 23 = .ok (.goto 4, 3) := by decide +kernel
theorem dX1_readNumber_26 : decode cX1_readNumber 26 = .ok (.iconst 0, 1) := by decide +kernel
theorem dX1_readNumber_27 : decode cX1_readNumber 27 = .ok (.ireturn, 1) := by decide +kernel
theorem dX1_readDigits_0 : decode cX1_readDigits 0 = .ok (.iconst 0, 1) := by decide +kernel
theorem dX1_readDigits_1 : decode cX1_readDigits 1 = .ok (.istore_n 3, 1) := by decide +kernel
theorem dX1_readDigits_2 : decode cX1_readDigits 2 = .ok (.iconst 0, 1) := by decide +kernel
theorem dX1_readDigits_3 : decode cX1_readDigits 3 = .ok (.istore 4, 2) := by decide +kernel
theorem dX1_readDigits_5 : decode cX1_readDigits 5 = .ok (.iload 4, 2) := by decide +kernel
theorem dX1_readDigits_7 : decode cX1_readDigits 7 = .ok (.iload_n 2, 1) := by decide +kernel
theorem dX1_readDigits_8 : decode cX1_readDigits 8 = .ok (.if_icmp .ge 36, 3) := by decide +kernel
theorem dX1_readDigits_11 : decode cX1_readDigits 11 = .ok (.aload_n 0, 1) := by decide +kernel
theorem dX1_readDigits_12 : decode cX1_readDigits 12 = .ok (.aload_n 0, 1) := by decide +kernel
theorem dX1_readDigits_13 : decode cX1_readDigits 13 = .ok (.getfield 23, 3) := by decide +kernel
theorem dX1_readDigits_16 : decode cX1_readDigits 16 = .ok (.invokevirtual 73, 3) := by decide +kernel
theorem dX1_readDigits_19 : decode cX1_readDigits 19 = .ok (.invokestatic 111, 3) := by decide +kernel
theorem dX1_readDigits_22 : decode cX1_readDigits 22 = .ok (.ifCond .eq 22, 3) := by decide +kernel
theorem dX1_readDigits_25 : decode cX1_readDigits 25 = .ok (.iinc 3 1, 3) := by decide +kernel
theorem dX1_readDigits_28 : decode cX1_readDigits 28 = .ok (.aload_n 0, 1) := by decide +kernel
theorem dX1_readDigits_29 : decode cX1_readDigits 29 = .ok (.dup, 1) := by decide +kernel
theorem dX1_readDigits_30 : decode cX1_readDigits 30 = .ok (.getfield 23, 3) := by decide +kernel
theorem dX1_readDigits_33 : decode cX1_readDigits 33 = .ok (.iconst 1, 1) := by decide +kernel
theorem dX1_readDigits_34 : decode cX1_readDigits 34 = .ok (.iadd, 1) := by decide +kernel
theorem dX1_readDigits_35 : decode cX1_readDigits 35 = .ok (.putfield 23, 3) := by decide +kernel
theorem dX1_readDigits_38 : decode cX1_readDigits 38 = .ok (.iinc 4 1, 3) := by decide +kernel
theorem dX1_readDigits_41 : decode cX1_readDigits 41 = .ok (.goto (-36), 3) := by decide +kernel
theorem dX1_readDigits_44 : decode cX1_readDigits 44 = .ok (.iload_n 3, 1) := by decide +kernel
theorem dX1_readDigits_45 : decode cX1_readDigits 45 = .ok (.iload_n 1, 1) := by decide +kernel
theorem dX1_readDigits_46 : decode cX1_readDigits 46 = .ok (.if_icmp .lt 21, 3) := by decide +kernel
theorem dX1_readDigits_49 : decode cX1_readDigits 49 = .ok (.aload_n 0, 1) := by decide +kernel
theorem dX1_readDigits_50 : decode cX1_readDigits 50 = .ok (.aload_n 0, 1) := by decide +kernel
theorem dX1_readDigits_51 : decode cX1_readDigits 51 = .ok (.getfield 23, 3) := by decide +kernel
theorem dX1_readDigits_54 : decode cX1_readDigits 54 = .ok (.invokevirtual 73, 3) := by decide +kernel
theorem dX1_readDigits_57 : decode cX1_readDigits 57 = .ok (.invokestatic 111, 3) := by decide +kernel
theorem dX1_readDigits_60 : decode cX1_readDigits 60 = .ok (.ifCond .ne 7, 3) := by decide +kernel
theorem dX1_readDigits_63 : decode cX1_readDigits 63 = .ok (.iconst 1, 1) := by decide +kernel
theorem dX1_readDigits_64 : decode cX1_readDigits 64 = .ok (.goto 4, 3) := by decide +kernel
theorem dX1_readDigits_67 : decode cX1_readDigits 67 = .ok (.iconst 0, 1) := by decide +kernel
theorem dX1_readDigits_68 : decode cX1_readDigits 68 = .ok (.ireturn, 1) := by decide +kernel
theorem dX1_filledUp_0 : decode cX1_filledUp 0 = .ok (.lconst 0, 1) := by decide +kernel
theorem dX1_filledUp_1 : decode cX1_filledUp 1 = .ok (.lstore 4, 2) := by decide +kernel
theorem dX1_filledUp_3 : decode cX1_filledUp 3 = .ok (.iconst 0, 1) := by decide +kernel
theorem dX1_filledUp_4 : decode cX1_filledUp 4 = .ok (.istore 6, 2) := by decide +kernel
theorem dX1_filledUp_6 : decode cX1_filledUp 6 = .ok (.iload 6, 2) := by decide +kernel
theorem dX1_filledUp_8 : decode cX1_filledUp 8 = .ok (.iload_n 3, 1) := by decide +kernel
theorem dX1_filledUp_9 : decode cX1_filledUp 9 = .ok (.if_icmp .ge 46, 3) := by decide +kernel
theorem dX1_filledUp_12 : decode cX1_filledUp 12 = .ok (.iload_n 1, 1) := by decide +kernel
theorem dX1_filledUp_13 : decode cX1_filledUp 13 = .ok (.iload 6, 2) := by decide +kernel
theorem dX1_filledUp_15 : decode cX1_filledUp 15 = .ok (.iadd, 1) := by decide +kernel
theorem dX1_filledUp_16 : decode cX1_filledUp 16 = .ok (.iload_n 2, 1) := by decide +kernel
theorem dX1_filledUp_17 : decode cX1_filledUp 17 = .ok (.if_icmp .ge 17, 3) := by decide +kernel
theorem dX1_filledUp_20 : decode cX1_filledUp 20 = .ok (.aload_n 0, 1) := by decide +kernel
theorem dX1_filledUp_21 : decode cX1_filledUp 21 = .ok (.iload_n 1, 1) := by decide +kernel
theorem dX1_filledUp_22 : decode cX1_filledUp 22 = .ok (.iload 6, 2) := by decide +kernel
theorem dX1_filledUp_24 : decode cX1_filledUp 24 = .ok (.iadd, 1) := by decide +kernel
theorem dX1_filledUp_25 : decode cX1_filledUp 25 = .ok (.invokevirtual 73, 3) := by decide +kernel
theorem dX1_filledUp_28 : decode cX1_filledUp 28 = .ok (.bipush 48, 2) := by decide +kernel
theorem dX1_filledUp_30 : decode cX1_filledUp 30 = .ok (.isub, 1) := by decide +kernel
theorem dX1_filledUp_31 : decode cX1_filledUp 31 = .ok (.goto 4, 3) := by decide +kernel
theorem dX1_filledUp_34 : decode cX1_filledUp 34 = .ok (.iconst 0, 1) := by decide +kernel
theorem dX1_filledUp_35 : decode cX1_filledUp 35 = .ok (.istore 7, 2) := by decide +kernel
theorem dX1_filledUp_37 : decode cX1_filledUp 37 = .ok (.lload 4, 2) := by decide +kernel
theorem dX1_filledUp_39 : decode cX1_filledUp 39 = .ok (.ldc2_w 132, 3) := by decide +kernel
theorem dX1_filledUp_42 : decode cX1_filledUp 42 = .ok (.lmul, 1) := by decide +kernel
theorem dX1_filledUp_43 : decode cX1_filledUp 43 = .ok (.iload 7, 2) := by decide +kernel
theorem dX1_filledUp_45 : decode cX1_filledUp 45 = .ok (.i2l, 1) := by decide +kernel
theorem dX1_filledUp_46 : decode cX1_filledUp 46 = .ok (.ladd, 1) := by decide +kernel
theorem dX1_filledUp_47 : decode cX1_filledUp 47 = .ok (.lstore 4, 2) := by decide +kernel
theorem dX1_filledUp_49 : decode cX1_filledUp 49 = .ok (.iinc 6 1, 3) := by decide +kernel
theorem dX1_filledUp_52 : decode cX1_filledUp 52 = .ok (.goto (-46), 3) := by decide +kernel
theorem dX1_filledUp_55 : decode cX1_filledUp 55 = .ok (.lload 4, 2) := by decide +kernel
theorem dX1_filledUp_57 : decode cX1_filledUp 57 = .ok (.lreturn, 1) := by decide +kernel
theorem dX1_signAt_0 : decode cX1_signAt 0 = .ok (.iload_n 1, 1) := by decide +kernel
theorem dX1_signAt_1 : decode cX1_signAt 1 = .ok (.ifCond .lt 29, 3) := by decide +kernel
theorem dX1_signAt_4 : decode cX1_signAt 4 = .ok (.iload_n 1, 1) := by decide +kernel
theorem dX1_signAt_5 : decode cX1_signAt 5 = .ok (.aload_n 0, 1) := by decide +kernel
theorem dX1_signAt_6 : decode cX1_signAt 6 = .ok (.getfield 19, 3) := by decide +kernel
theorem dX1_signAt_9 : decode cX1_signAt 9 = .ok (.if_icmp .ge 21, 3) := by decide +kernel
theorem dX1_signAt_12 : decode cX1_signAt 12 = .ok (.iload_n 1, 1) := by decide +kernel
theorem dX1_signAt_13 : decode cX1_signAt 13 = .ok (.aload_n 0, 1) := by decide +kernel
theorem dX1_signAt_14 : decode cX1_signAt 14 = .ok (.getfield 9, 3) := by decide +kernel
theorem dX1_signAt_17 : decode cX1_signAt 17 = .ok (.arraylength, 1) := by decide +kernel
theorem dX1_signAt_18 : decode cX1_signAt 18 = .ok (.if_icmp .ge 12, 3) := by decide +kernel
theorem dX1_signAt_21 : decode cX1_signAt 21 = .ok (.aload_n 0, 1) := by decide +kernel
theorem dX1_signAt_22 : decode cX1_signAt 22 = .ok (.getfield 9, 3) := by decide +kernel
theorem dX1_signAt_25 : decode cX1_signAt 25 = .ok (.iload_n 1, 1) := by decide +kernel
theorem dX1_signAt_26 : decode cX1_signAt 26 = .ok (.iaload, 1) := by decide +kernel
theorem dX1_signAt_27 : decode cX1_signAt 27 = .ok (.goto 4, 3) := by decide +kernel
theorem dX1_signAt_30 : decode cX1_signAt 30 = .ok (.iconst (-1), 1) := by decide +kernel
theorem dX1_signAt_31 : decode cX1_signAt 31 = .ok (.ireturn, 1) := by decide +kernel
theorem dX1_isDigit_0 : decode cX1_isDigit 0 = .ok (.iload_n 0, 1) := by decide +kernel
theorem dX1_isDigit_1 : decode cX1_isDigit 1 = .ok (.bipush 48, 2) := by decide +kernel
theorem dX1_isDigit_3 : decode cX1_isDigit 3 = .ok (.if_icmp .lt 13, 3) := by decide +kernel
theorem dX1_isDigit_6 : decode cX1_isDigit 6 = .ok (.iload_n 0, 1) := by decide +kernel
theorem dX1_isDigit_7 : decode cX1_isDigit 7 = .ok (.bipush 57, 2) := by decide +kernel
theorem dX1_isDigit_9 : decode cX1_isDigit 9 = .ok (.if_icmp .gt 7, 3) := by decide +kernel
theorem dX1_isDigit_12 : decode cX1_isDigit 12 = .ok (.iconst 1, 1) := by decide +kernel
theorem dX1_isDigit_13 : decode cX1_isDigit 13 = .ok (.goto 4, 3) := by decide +kernel
theorem dX1_isDigit_16 : decode cX1_isDigit 16 = .ok (.iconst 0, 1) := by decide +kernel
theorem dX1_isDigit_17 : decode cX1_isDigit 17 = .ok (.ireturn, 1) := by decide +kernel
theorem dX1_isCapital_0 : decode cX1_isCapital 0 = .ok (.iload_n 0, 1) := by decide +kernel
theorem dX1_isCapital_1 : decode cX1_isCapital 1 = .ok (.bipush 65, 2) := by decide +kernel
theorem dX1_isCapital_3 : decode cX1_isCapital 3 = .ok (.if_icmp .lt 13, 3) := by decide +kernel
theorem dX1_isCapital_6 : decode cX1_isCapital 6 = .ok (.iload_n 0, 1) := by decide +kernel
theorem dX1_isCapital_7 : decode cX1_isCapital 7 = .ok (.bipush 90, 2) := by decide +kernel
theorem dX1_isCapital_9 : decode cX1_isCapital 9 = .ok (.if_icmp .gt 7, 3) := by decide +kernel
theorem dX1_isCapital_12 : decode cX1_isCapital 12 = .ok (.iconst 1, 1) := by decide +kernel
theorem dX1_isCapital_13 : decode cX1_isCapital 13 = .ok (.goto 4, 3) := by decide +kernel
theorem dX1_isCapital_16 : decode cX1_isCapital 16 = .ok (.iconst 0, 1) := by decide +kernel
theorem dX1_isCapital_17 : decode cX1_isCapital 17 = .ok (.ireturn, 1) := by decide +kernel
theorem dX1_isSmall_0 : decode cX1_isSmall 0 = .ok (.iload_n 0, 1) := by decide +kernel
theorem dX1_isSmall_1 : decode cX1_isSmall 1 = .ok (.bipush 97, 2) := by decide +kernel
theorem dX1_isSmall_3 : decode cX1_isSmall 3 = .ok (.if_icmp .lt 13, 3) := by decide +kernel
theorem dX1_isSmall_6 : decode cX1_isSmall 6 = .ok (.iload_n 0, 1) := by decide +kernel
theorem dX1_isSmall_7 : decode cX1_isSmall 7 = .ok (.bipush 122, 2) := by decide +kernel
theorem dX1_isSmall_9 : decode cX1_isSmall 9 = .ok (.if_icmp .gt 7, 3) := by decide +kernel
theorem dX1_isSmall_12 : decode cX1_isSmall 12 = .ok (.iconst 1, 1) := by decide +kernel
theorem dX1_isSmall_13 : decode cX1_isSmall 13 = .ok (.goto 4, 3) := by decide +kernel
theorem dX1_isSmall_16 : decode cX1_isSmall 16 = .ok (.iconst 0, 1) := by decide +kernel
theorem dX1_isSmall_17 : decode cX1_isSmall 17 = .ok (.ireturn, 1) := by decide +kernel
