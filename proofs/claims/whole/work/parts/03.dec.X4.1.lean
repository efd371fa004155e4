theorem dX4_letter_11 : decode cX4_letter 11 = .ok (.getfield 91, 3) := by decide +kernel
theorem dX4_letter_14 : decode cX4_letter 14 = .ok (.ifCond .eq 12, 3) := by decide +kernel
theorem dX4_letter_17 : decode cX4_letter 17 = .ok (.iload_n 1, 1) := by decide +kernel
theorem dX4_letter_18 : decode cX4_letter 18 = .ok (.ifCond .lt 8, 3) := by decide +kernel
theorem dX4_letter_21 : decode cX4_letter 21 = .ok (.iload_n 1, 1) := by decide +kernel
theorem dX4_letter_22 : decode cX4_letter 22 = .ok (.iload_n 2, 1) := by decide +kernel
theorem dX4_letter_23 : decode cX4_letter 23 = .ok (.if_icmp .le 7, 3) := by decide +kernel
theorem dX4_letter_26 : decode cX4_letter 26 = .ok (.iconst 0, 1) := by decide +kernel
theorem dX4_letter_27 : decode cX4_letter 27 = .ok (.goto 24, 3) := by decide +kernel
theorem dX4_letter_30 : decode cX4_letter 30 = .ok (.iload_n 1, 1) := by decide +kernel
theorem dX4_letter_31 : decode cX4_letter 31 = .ok (.iload_n 2, 1) := by decide +kernel
theorem dX4_letter_32 : decode cX4_letter 32 = .ok (.if_icmp .ne 13, 3) := by decide +kernel
theorem dX4_letter_35 : decode cX4_letter 35 = .ok (.aload_n 0, 1) := by decide +kernel
theorem dX4_letter_36 : decode cX4_letter 36 = .ok (.getfield 17, 3) := by decide +kernel
theorem dX4_letter_39 : decode cX4_letter 39 = .ok (.bipush 16, 2) := by decide +kernel
theorem dX4_letter_41 : decode cX4_letter 41 = .ok (.iaload, 1) := by decide +kernel
theorem dX4_letter_42 : decode cX4_letter 42 = .ok (.goto 9, 3) := by decide +kernel
theorem dX4_letter_45 : decode cX4_letter 45 = .ok (.aload_n 0, 1) := by decide +kernel
theorem dX4_letter_46 : decode cX4_letter 46 = .ok (.getfield 17, 3) := by decide +kernel
theorem dX4_letter_49 : decode cX4_letter 49 = .ok (.iload_n 1, 1) := by decide +kernel
theorem dX4_letter_50 : decode cX4_letter 50 = .ok (.iaload, 1) := by decide +kernel
theorem dX4_letter_51 : decode cX4_letter 51 = .ok (.ireturn, 1) := by decide +kernel
theorem dX4_decimals_0 : decode cX4_decimals 0 = .ok (.iload_n 0, 1) := by decide +kernel
theorem dX4_decimals_1 : decode cX4_decimals 1 = .ok (.sipush 999, 3) := by decide +kernel
theorem dX4_decimals_4 : decode cX4_decimals 4 = .ok (.if_icmp .le 7, 3) := by decide +kernel
theorem dX4_decimals_7 : decode cX4_decimals 7 = .ok (.iconst 4, 1) := by decide +kernel
theorem dX4_decimals_8 : decode cX4_decimals 8 = .ok (.goto 24, 3) := by decide +kernel
theorem dX4_decimals_11 : decode cX4_decimals 11 = .ok (.iload_n 0, 1) := by decide +kernel
theorem dX4_decimals_12 : decode cX4_decimals 12 = .ok (.bipush 99, 2) := by decide +kernel
theorem dX4_decimals_14 : decode cX4_decimals 14 = .ok (.if_icmp .le 7, 3) := by decide +kernel
theorem dX4_decimals_17 : decode cX4_decimals 17 = .ok (.iconst 3, 1) := by decide +kernel
theorem dX4_decimals_18 : decode cX4_decimals 18 = .ok (.goto 14, 3) := by decide +kernel
theorem dX4_decimals_21 : decode cX4_decimals 21 = .ok (.iload_n 0, 1) := by decide +kernel
theorem dX4_decimals_22 : decode cX4_decimals 22 = .ok (.bipush 9, 2) := by decide +kernel
theorem dX4_decimals_24 : decode cX4_decimals 24 = .ok (.if_icmp .le 7, 3) := by decide +kernel
theorem dX4_decimals_27 : decode cX4_decimals 27 = .ok (.iconst 2, 1) := by decide +kernel
theorem dX4_decimals_28 : decode cX4_decimals 28 = .ok (.goto 4, 3) := by decide +kernel
theorem dX4_decimals_31 : decode cX4_decimals 31 = .ok (.iconst 1, 1) := by decide +kernel
theorem dX4_decimals_32 : decode cX4_decimals 32 = .ok (.ireturn, 1) := by decide +kernel
theorem dX4_cutterSize_0 : decode cX4_cutterSize 0 = .ok (.iconst 0, 1) := by decide +kernel
theorem dX4_cutterSize_1 : decode cX4_cutterSize 1 = .ok (.istore_n 1, 1) := by decide +kernel
theorem dX4_cutterSize_2 : decode cX4_cutterSize 2 = .ok (.iload_n 1, 1) := by decide +kernel
theorem dX4_cutterSize_3 : decode cX4_cutterSize 3 = .ok (.bipush 6, 2) := by decide +kernel
theorem dX4_cutterSize_5 : decode cX4_cutterSize 5 = .ok (.if_icmp .ge 21, 3) := by decide +kernel
theorem dX4_cutterSize_8 : decode cX4_cutterSize 8 = .ok (.aload_n 0, 1) := by decide +kernel
theorem dX4_cutterSize_9 : decode cX4_cutterSize 9 = .ok (.getfield 17, 3) := by decide +kernel
theorem dX4_cutterSize_12 : decode cX4_cutterSize 12 = .ok (.bipush 17, 2) := by decide +kernel
theorem dX4_cutterSize_14 : decode cX4_cutterSize 14 = .ok (.iload_n 1, 1) := by decide +kernel
theorem dX4_cutterSize_15 : decode cX4_cutterSize 15 = .ok (.iadd, 1) := by decide +kernel
theorem dX4_cutterSize_16 : decode cX4_cutterSize 16 = .ok (.iaload, 1) := by decide +kernel
theorem dX4_cutterSize_17 : decode cX4_cutterSize 17 = .ok (.ifCond .le 9, 3) := by decide +kernel
theorem dX4_cutterSize_20 : decode cX4_cutterSize 20 = .ok (.iinc 1 1, 3) := by decide +kernel
theorem dX4_cutterSize_23 : decode cX4_cutterSize 23 = .ok (.goto (-21), 3) := by decide +kernel
theorem dX4_cutterSize_26 : decode cX4_cutterSize 26 = .ok (.iload_n 1, 1) := by decide +kernel
theorem dX4_cutterSize_27 : decode cX4_cutterSize 27 = .ok (.ireturn, 1) := by decide +kernel
theorem dX4_spine_0 : decode cX4_spine 0 = .ok (.aload_n 0, 1) := by decide +kernel
theorem dX4_spine_1 : decode cX4_spine 1 = .ok (.iconst 0, 1) := by decide +kernel
theorem dX4_spine_2 : decode cX4_spine 2 = .ok (.putfield 33, 3) := by decide +kernel
theorem dX4_spine_5 : decode cX4_spine 5 = .ok (.aload_n 0, 1) := by decide +kernel
theorem dX4_spine_6 : decode cX4_spine 6 = .ok (.getfield 91, 3) := by decide +kernel
theorem dX4_spine_9 : decode cX4_spine 9 = .ok (.ifCond .eq 7, 3) := by decide +kernel
theorem dX4_spine_12 : decode cX4_spine 12 = .ok (.iload_n 1, 1) := by decide +kernel
theorem dX4_spine_13 : decode cX4_spine 13 = .ok (.ifCond .ge 5, 3) := by decide +kernel
theorem dX4_spine_16 : decode cX4_spine 16 = .ok (.iconst (-1), 1) := by decide +kernel
theorem dX4_spine_17 : decode cX4_spine 17 = .ok (.ireturn, 1) := by decide +kernel
theorem dX4_spine_18 : decode cX4_spine 18 = .ok (.iload_n 1, 1) := by decide +kernel
theorem dX4_spine_19 : decode cX4_spine 19 = .ok (.istore_n 2, 1) := by decide +kernel
theorem dX4_spine_20 : decode cX4_spine 20 = .ok (.aload_n 0, 1) := by decide +kernel
theorem dX4_spine_21 : decode cX4_spine 21 = .ok (.getfield 29, 3) := by decide +kernel
theorem dX4_spine_24 : decode cX4_spine 24 = .ok (.iconst 1, 1) := by decide +kernel
theorem dX4_spine_25 : decode cX4_spine 25 = .ok (.if_icmp .ne 15, 3) := by decide +kernel
theorem dX4_spine_28 : decode cX4_spine 28 = .ok (.iload_n 2, 1) := by decide +kernel
theorem dX4_spine_29 : decode cX4_spine 29 = .ok (.ifCond .ne 8, 3) := by decide +kernel
theorem dX4_spine_32 : decode cX4_spine 32 = .ok (.aload_n 0, 1) := by decide +kernel
theorem dX4_spine_33 : decode cX4_spine 33 = .ok (.invokevirtual 108, 3) := by decide +kernel
theorem dX4_spine_36 : decode cX4_spine 36 = .ok (.ireturn, 1) := by decide +kernel
theorem dX4_spine_37 : decode cX4_spine 37 = .ok (.iinc 2 (-1), 3) := by decide +kernel
theorem dX4_spine_40 : decode cX4_spine 40 = .ok (.iload_n 2, 1) := by decide +kernel
theorem dX4_spine_41 : decode cX4_spine 41 = .ok (.ifCond .ne 16, 3) := by decide +kernel
theorem dX4_spine_44 : decode cX4_spine 44 = .ok (.aload_n 0, 1) := by decide +kernel
theorem dX4_spine_45 : decode cX4_spine 45 = .ok (.getfield 17, 3) := by decide +kernel
theorem dX4_spine_48 : decode cX4_spine 48 = .ok (.bipush 37, 2) := by decide +kernel
theorem dX4_spine_50 : decode cX4_spine 50 = .ok (.iaload, 1) := by decide +kernel
theorem dX4_spine_51 : decode cX4_spine 51 = .ok (.aload_n 0, 1) := by decide +kernel
theorem dX4_spine_52 : decode cX4_spine 52 = .ok (.invokevirtual 108, 3) := by decide +kernel
theorem dX4_spine_55 : decode cX4_spine 55 = .ok (.isub, 1) := by decide +kernel
theorem dX4_spine_56 : decode cX4_spine 56 = .ok (.ireturn, 1) := by decide +kernel
theorem dX4_spine_57 : decode cX4_spine 57 = .ok (.iload_n 2, 1) := by decide +kernel
theorem dX4_spine_58 : decode cX4_spine 58 = .ok (.iconst 1, 1) := by decide +kernel
theorem dX4_spine_59 : decode cX4_spine 59 = .ok (.if_icmp .ne 10, 3) := by decide +kernel
theorem dX4_spine_62 : decode cX4_spine 62 = .ok (.iconst 1, 1) := by decide +kernel
theorem dX4_spine_63 : decode cX4_spine 63 = .ok (.aload_n 0, 1) := by decide +kernel
theorem dX4_spine_64 : decode cX4_spine 64 = .ok (.invokevirtual 111, 3) := by decide +kernel
theorem dX4_spine_67 : decode cX4_spine 67 = .ok (.iadd, 1) := by decide +kernel
theorem dX4_spine_68 : decode cX4_spine 68 = .ok (.ireturn, 1) := by decide +kernel
theorem dX4_spine_69 : decode cX4_spine 69 = .ok (.iinc 2 (-2), 3) := by decide +kernel
theorem dX4_spine_72 : decode cX4_spine 72 = .ok (.aload_n 0, 1) := by decide +kernel
theorem dX4_spine_73 : decode cX4_spine 73 = .ok (.getfield 17, 3) := by decide +kernel
theorem dX4_spine_76 : decode cX4_spine 76 = .ok (.bipush 23, 2) := by decide +kernel
theorem dX4_spine_78 : decode cX4_spine 78 = .ok (.iaload, 1) := by decide +kernel
theorem dX4_spine_79 : decode cX4_spine 79 = .ok (.ifCond .le 12, 3) := by decide +kernel
theorem dX4_spine_82 : decode cX4_spine 82 = .ok (.iload_n 2, 1) := by decide +kernel
theorem dX4_spine_83 : decode cX4_spine 83 = .ok (.ifCond .ne 5, 3) := by decide +kernel
theorem dX4_spine_86 : decode cX4_spine 86 = .ok (.iconst 4, 1) := by decide +kernel
theorem dX4_spine_87 : decode cX4_spine 87 = .ok (.ireturn, 1) := by decide +kernel
theorem dX4_spine_88 : decode cX4_spine 88 = .ok (.iinc 2 (-1), 3) := by decide +kernel
theorem dX4_spine_91 : decode cX4_spine 91 = .ok (.aload_n 0, 1) := by decide +kernel
theorem dX4_spine_92 : decode cX4_spine 92 = .ok (.getfield 17, 3) := by decide +kernel
theorem dX4_spine_95 : decode cX4_spine 95 = .ok (.bipush 24, 2) := by decide +kernel
theorem dX4_spine_97 : decode cX4_spine 97 = .ok (.iaload, 1) := by decide +kernel
theorem dX4_spine_98 : decode cX4_spine 98 = .ok (.ifCond .le 39, 3) := by decide +kernel
theorem dX4_spine_101 : decode cX4_spine 101 = .ok (.iload_n 2, 1) := by decide +kernel
theorem dX4_spine_102 : decode cX4_spine 102 = .ok (.ifCond .ne 32, 3) := by decide +kernel
theorem dX4_spine_105 : decode cX4_spine 105 = .ok (.iconst 2, 1) := by decide +kernel
theorem dX4_spine_106 : decode cX4_spine 106 = .ok (.aload_n 0, 1) := by decide +kernel
theorem dX4_spine_107 : decode cX4_spine 107 = .ok (.getfield 17, 3) := by decide +kernel
theorem dX4_spine_110 : decode cX4_spine 110 = .ok (.bipush 24, 2) := by decide +kernel
theorem dX4_spine_112 : decode cX4_spine 112 = .ok (.iaload, 1) := by decide +kernel
theorem dX4_spine_113 : decode cX4_spine 113 = .ok (.invokestatic 114, 3) := by decide +kernel
theorem dX4_spine_116 : decode cX4_spine 116 = .ok (.iadd, 1) := by decide +kernel
theorem dX4_spine_117 : decode cX4_spine 117 = .ok (.aload_n 0, 1) := by decide +kernel
theorem dX4_spine_118 : decode cX4_spine 118 = .ok (.getfield 17, 3) := by decide +kernel
theorem dX4_spine_121 : decode cX4_spine 121 = .ok (.bipush 25, 2) := by decide +kernel
theorem dX4_spine_123 : decode cX4_spine 123 = .ok (.iaload, 1) := by decide +kernel
theorem dX4_spine_124 : decode cX4_spine 124 = .ok (.ifCond .le 7, 3) := by decide +kernel
theorem dX4_spine_127 : decode cX4_spine 127 = .ok (.iconst 1, 1) := by decide +kernel
theorem dX4_spine_128 : decode cX4_spine 128 = .ok (.goto 4, 3) := by decide +kernel
theorem dX4_spine_131 : decode cX4_spine 131 = .ok (.iconst 0, 1) := by decide +kernel
theorem dX4_spine_132 : decode cX4_spine 132 = .ok (.iadd, 1) := by decide +kernel
theorem dX4_spine_133 : decode cX4_spine 133 = .ok (.ireturn, 1) := by decide +kernel
theorem dX4_spine_134 : decode cX4_spine 134 = .ok (.iinc 2 (-1), 3) := by decide +kernel
theorem dX4_spine_137 : decode cX4_spine 137 = .ok (.aload_n 0, 1) := by decide +kernel
theorem dX4_spine_138 : decode cX4_spine 138 = .ok (.getfield 17, 3) := by decide +kernel
theorem dX4_spine_141 : decode cX4_spine 141 = .ok (.bipush 26, 2) := by decide +kernel
theorem dX4_spine_143 : decode cX4_spine 143 = .ok (.iaload, 1) := by decide +kernel
theorem dX4_spine_144 : decode cX4_spine 144 = .ok (.ifCond .le 14, 3) := by decide +kernel
theorem dX4_spine_147 : decode cX4_spine 147 = .ok (.iload_n 2, 1) := by decide +kernel
theorem dX4_spine_148 : decode cX4_spine 148 = .ok (.ifCond .ne 10, 3) := by decide +kernel
theorem dX4_spine_151 : decode cX4_spine 151 = .ok (.aload_n 0, 1) := by decide +kernel
theorem dX4_spine_152 : decode cX4_spine 152 = .ok (.invokevirtual 105, 3) := by decide +kernel
theorem dX4_spine_155 : decode cX4_spine 155 = .ok (.goto 4, 3) := by decide +kernel
theorem dX4_spine_158 : decode cX4_spine 158 = .ok (.iconst (-1), 1) := by decide +kernel
theorem dX4_spine_159 : decode cX4_spine 159 = .ok (.ireturn, 1) := by decide +kernel
theorem dX4_order_0 : decode cX4_order 0 = .ok (.iconst 0, 1) := by decide +kernel
theorem dX4_order_1 : decode cX4_order 1 = .ok (.istore 4, 2) := by decide +kernel
theorem dX4_order_3 : decode cX4_order 3 = .ok (.iload 4, 2) := by decide +kernel
theorem dX4_order_5 : decode cX4_order 5 = .ok (.iload_n 3, 1) := by decide +kernel
theorem dX4_order_6 : decode cX4_order 6 = .ok (.if_icmp .ge 61, 3) := by decide +kernel
theorem dX4_order_9 : decode cX4_order 9 = .ok (.iload_n 2, 1) := by decide +kernel
theorem dX4_order_10 : decode cX4_order 10 = .ok (.ifCond .ge 13, 3) := by decide +kernel
theorem dX4_order_13 : decode cX4_order 13 = .ok (.aload_n 0, 1) := by decide +kernel
theorem dX4_order_14 : decode cX4_order 14 = .ok (.getfield 26, 3) := by decide +kernel
theorem dX4_order_17 : decode cX4_order 17 = .ok (.iload 4, 2) := by decide +kernel
theorem dX4_order_19 : decode cX4_order 19 = .ok (.iaload, 1) := by decide +kernel
theorem dX4_order_20 : decode cX4_order 20 = .ok (.goto 15, 3) := by decide +kernel
theorem dX4_order_23 : decode cX4_order 23 = .ok (.aload_n 0, 1) := by decide +kernel
theorem dX4_order_24 : decode cX4_order 24 = .ok (.getfield 20, 3) := by decide +kernel
theorem dX4_order_27 : decode cX4_order 27 = .ok (.bipush 40, 2) := by decide +kernel
theorem dX4_order_29 : decode cX4_order 29 = .ok (.iload_n 2, 1) := by decide +kernel
theorem dX4_order_30 : decode cX4_order 30 = .ok (.imul, 1) := by decide +kernel
theorem dX4_order_31 : decode cX4_order 31 = .ok (.iload 4, 2) := by decide +kernel
theorem dX4_order_33 : decode cX4_order 33 = .ok (.iadd, 1) := by decide +kernel
theorem dX4_order_34 : decode cX4_order 34 = .ok (.iaload, 1) := by decide +kernel
theorem dX4_order_35 : decode cX4_order 35 = .ok (.istore 5, 2) := by decide +kernel
theorem dX4_order_37 : decode cX4_order 37 = .ok (.aload_n 1, 1) := by decide +kernel
theorem dX4_order_38 : decode cX4_order 38 = .ok (.iload 4, 2) := by decide +kernel
theorem dX4_order_40 : decode cX4_order 40 = .ok (.iaload, 1) := by decide +kernel
theorem dX4_order_41 : decode cX4_order 41 = .ok (.iload 5, 2) := by decide +kernel
theorem dX4_order_43 : decode cX4_order 43 = .ok (.if_icmp .eq 18, 3) := by decide +kernel
theorem dX4_order_46 : decode cX4_order 46 = .ok (.aload_n 1, 1) := by decide +kernel
theorem dX4_order_47 : decode cX4_order 47 = .ok (.iload 4, 2) := by decide +kernel
theorem dX4_order_49 : decode cX4_order 49 = .ok (.iaload, 1) := by decide +kernel
theorem dX4_order_50 : decode cX4_order 50 = .ok (.iload 5, 2) := by decide +kernel
theorem dX4_order_52 : decode cX4_order 52 = .ok (.if_icmp .ge 7, 3) := by decide +kernel
theorem dX4_order_55 : decode cX4_order 55 = .ok (.iconst (-1), 1) := by decide +kernel
theorem dX4_order_56 : decode cX4_order 56 = .ok (.goto 4, 3) := by decide +kernel
theorem dX4_order_59 : decode cX4_order 59 = .ok (.iconst 1, 1) := by decide +kernel
theorem dX4_order_60 : decode cX4_order 60 = .ok (.ireturn, 1) := by decide +kernel
theorem dX4_order_61 : decode cX4_order 61 = .ok (.iinc 4 1, 3) := by decide +kernel
theorem dX4_order_64 : decode cX4_order 64 = .ok (.goto (-61), 3) := by decide +kernel
theorem dX4_order_67 : decode cX4_order 67 = .ok (.iconst 0, 1) := by decide +kernel
theorem dX4_order_68 : decode cX4_order 68 = .ok (.ireturn, 1) := by decide +kernel
theorem dX4_placeOf_0 : decode cX4_placeOf 0 = .ok (.iconst 0, 1) := by decide +kernel
theorem dX4_placeOf_1 : decode cX4_placeOf 1 = .ok (.istore_n 1, 1) := by decide +kernel
theorem dX4_placeOf_2 : decode cX4_placeOf 2 = .ok (.iload_n 1, 1) := by decide +kernel
theorem dX4_placeOf_3 : decode cX4_placeOf 3 = .ok (.aload_n 0, 1) := by decide +kernel
theorem dX4_placeOf_4 : decode cX4_placeOf 4 = .ok (.getfield 118, 3) := by decide +kernel
theorem dX4_placeOf_7 : decode cX4_placeOf 7 = .ok (.if_icmp .ge 23, 3) := by decide +kernel
theorem dX4_placeOf_10 : decode cX4_placeOf 10 = .ok (.aload_n 0, 1) := by decide +kernel
theorem dX4_placeOf_11 : decode cX4_placeOf 11 = .ok (.aload_n 0, 1) := by decide +kernel
theorem dX4_placeOf_12 : decode cX4_placeOf 12 = .ok (.getfield 17, 3) := by decide +kernel
theorem dX4_placeOf_15 : decode cX4_placeOf 15 = .ok (.iload_n 1, 1) := by decide +kernel
theorem dX4_placeOf_16 : decode cX4_placeOf 16 = .ok (.bipush 34, 2) := by decide +kernel
theorem dX4_placeOf_18 : decode cX4_placeOf 18 = .ok (.invokevirtual 121, 3) := by decide +kernel
theorem dX4_placeOf_21 : decode cX4_placeOf 21 = .ok (.ifCond .le 9, 3) := by decide +kernel
theorem dX4_placeOf_24 : decode cX4_placeOf 24 = .ok (.iinc 1 1, 3) := by decide +kernel
theorem dX4_placeOf_27 : decode cX4_placeOf 27 = .ok (.goto (-25), 3) := by decide +kernel
theorem dX4_placeOf_30 : decode cX4_placeOf 30 = .ok (.iload_n 1, 1) := by decide +kernel
theorem dX4_placeOf_31 : decode cX4_placeOf 31 = .ok (.ireturn, 1) := by decide +kernel
theorem dX4_put_0 : decode cX4_put 0 = .ok (.aload_n 0, 1) := by decide +kernel
theorem dX4_put_1 : decode cX4_put 1 = .ok (.iconst 0, 1) := by decide +kernel
theorem dX4_put_2 : decode cX4_put 2 = .ok (.putfield 33, 3) := by decide +kernel
theorem dX4_put_5 : decode cX4_put 5 = .ok (.aload_n 0, 1) := by decide +kernel
theorem dX4_put_6 : decode cX4_put 6 = .ok (.getfield 91, 3) := by decide +kernel
theorem dX4_put_9 : decode cX4_put 9 = .ok (.ifCond .ne 5, 3) := by decide +kernel
theorem dX4_put_12 : decode cX4_put 12 = .ok (.iconst (-1), 1) := by decide +kernel
theorem dX4_put_13 : decode cX4_put 13 = .ok (.ireturn, 1) := by decide +kernel
theorem dX4_put_14 : decode cX4_put 14 = .ok (.aload_n 0, 1) := by decide +kernel
theorem dX4_put_15 : decode cX4_put 15 = .ok (.invokevirtual 125, 3) := by decide +kernel
theorem dX4_put_18 : decode cX4_put 18 = .ok (.istore_n 2, 1) := by decide +kernel
theorem dX4_put_19 : decode cX4_put 19 = .ok (.iload_n 2, 1) := by decide +kernel
theorem dX4_put_20 : decode cX4_put 20 = .ok (.aload_n 0, 1) := by decide +kernel
theorem dX4_put_21 : decode cX4_put 21 = .ok (.getfield 118, 3) := by decide +kernel
theorem dX4_put_24 : decode cX4_put 24 = .ok (.if_icmp .ge 22, 3) := by decide +kernel
theorem dX4_put_27 : decode cX4_put 27 = .ok (.aload_n 0, 1) := by decide +kernel
theorem dX4_put_28 : decode cX4_put 28 = .ok (.aload_n 0, 1) := by decide +kernel
theorem dX4_put_29 : decode cX4_put 29 = .ok (.getfield 17, 3) := by decide +kernel
theorem dX4_put_32 : decode cX4_put 32 = .ok (.iload_n 2, 1) := by decide +kernel
theorem dX4_put_33 : decode cX4_put 33 = .ok (.bipush 34, 2) := by decide +kernel
theorem dX4_put_35 : decode cX4_put 35 = .ok (.invokevirtual 121, 3) := by decide +kernel
theorem dX4_put_38 : decode cX4_put 38 = .ok (.ifCond .ne 8, 3) := by decide +kernel
theorem dX4_put_41 : decode cX4_put 41 = .ok (.bipush (-2), 2) := by decide +kernel
theorem dX4_put_43 : decode cX4_put 43 = .ok (.iload_n 2, 1) := by decide +kernel
theorem dX4_put_44 : decode cX4_put 44 = .ok (.isub, 1) := by decide +kernel
theorem dX4_put_45 : decode cX4_put 45 = .ok (.ireturn, 1) := by decide +kernel
theorem dX4_put_46 : decode cX4_put 46 = .ok (.aload_n 0, 1) := by decide +kernel
theorem dX4_put_47 : decode cX4_put 47 = .ok (.getfield 118, 3) := by decide +kernel
theorem dX4_put_50 : decode cX4_put 50 = .ok (.bipush 60, 2) := by decide +kernel
theorem dX4_put_52 : decode cX4_put 52 = .ok (.if_icmp .ne 5, 3) := by decide +kernel
theorem dX4_put_55 : decode cX4_put 55 = .ok (.iconst (-1), 1) := by decide +kernel
theorem dX4_put_56 : decode cX4_put 56 = .ok (.ireturn, 1) := by decide +kernel
theorem dX4_put_57 : decode cX4_put 57 = .ok (.aload_n 0, 1) := by decide +kernel
theorem dX4_put_58 : decode cX4_put 58 = .ok (.getfield 118, 3) := by decide +kernel
theorem dX4_put_61 : decode cX4_put 61 = .ok (.istore_n 3, 1) := by decide +kernel
theorem dX4_put_62 : decode cX4_put 62 = .ok (.iload_n 3, 1) := by decide +kernel
theorem dX4_put_63 : decode cX4_put 63 = .ok (.iload_n 2, 1) := by decide +kernel
theorem dX4_put_64 : decode cX4_put 64 = .ok (.if_icmp .le 66, 3) := by decide +kernel
theorem dX4_put_67 : decode cX4_put 67 = .ok (.iconst 0, 1) := by decide +kernel
theorem dX4_put_68 : decode cX4_put 68 = .ok (.istore 4, 2) := by decide +kernel
theorem dX4_put_70 : decode cX4_put 70 = .ok (.iload 4, 2) := by decide +kernel
theorem dX4_put_72 : decode cX4_put 72 = .ok (.bipush 40, 2) := by decide +kernel
theorem dX4_put_74 : decode cX4_put 74 = .ok (.if_icmp .ge 36, 3) := by decide +kernel
theorem dX4_put_77 : decode cX4_put 77 = .ok (.aload_n 0, 1) := by decide +kernel
theorem dX4_put_78 : decode cX4_put 78 = .ok (.getfield 20, 3) := by decide +kernel
theorem dX4_put_81 : decode cX4_put 81 = .ok (.bipush 40, 2) := by decide +kernel
theorem dX4_put_83 : decode cX4_put 83 = .ok (.iload_n 3, 1) := by decide +kernel
theorem dX4_put_84 : decode cX4_put 84 = .ok (.imul, 1) := by decide +kernel
theorem dX4_put_85 : decode cX4_put 85 = .ok (.iload 4, 2) := by decide +kernel
theorem dX4_put_87 : decode cX4_put 87 = .ok (.iadd, 1) := by decide +kernel
theorem dX4_put_88 : decode cX4_put 88 = .ok (.aload_n 0, 1) := by decide +kernel
theorem dX4_put_89 : decode cX4_put 89 = .ok (.getfield 20, 3) := by decide +kernel
theorem dX4_put_92 : decode cX4_put 92 = .ok (.bipush 40, 2) := by decide +kernel
theorem dX4_put_94 : decode cX4_put 94 = .ok (.iload_n 3, 1) := by decide +kernel
theorem dX4_put_95 : decode cX4_put 95 = .ok (.imul, 1) := by decide +kernel
theorem dX4_put_96 : decode cX4_put 96 = .ok (.bipush 40, 2) := by decide +kernel
theorem dX4_put_98 : decode cX4_put 98 = .ok (.isub, 1) := by decide +kernel
theorem dX4_put_99 : decode cX4_put 99 = .ok (.iload 4, 2) := by decide +kernel
theorem dX4_put_101 : decode cX4_put 101 = .ok (.iadd, 1) := by decide +kernel
theorem dX4_put_102 : decode cX4_put 102 = .ok (.iaload, 1) := by decide +kernel
theorem dX4_put_103 : decode cX4_put 103 = .ok (.iastore, 1) := by decide +kernel
theorem dX4_put_104 : decode cX4_put 104 = .ok (.iinc 4 1, 3) := by decide +kernel
theorem dX4_put_107 : decode cX4_put 107 = .ok (.goto (-37), 3) := by decide +kernel
theorem dX4_put_110 : decode cX4_put 110 = .ok (.aload_n 0, 1) := by decide +kernel
theorem dX4_put_111 : decode cX4_put 111 = .ok (.getfield 23, 3) := by decide +kernel
theorem dX4_put_114 : decode cX4_put 114 = .ok (.iload_n 3, 1) := by decide +kernel
theorem dX4_put_115 : decode cX4_put 115 = .ok (.aload_n 0, 1) := by decide +kernel
theorem dX4_put_116 : decode cX4_put 116 = .ok (.getfield 23, 3) := by decide +kernel
theorem dX4_put_119 : decode cX4_put 119 = .ok (.iload_n 3, 1) := by decide +kernel
theorem dX4_put_120 : decode cX4_put 120 = .ok (.iconst 1, 1) := by decide +kernel
theorem dX4_put_121 : decode cX4_put 121 = .ok (.isub, 1) := by decide +kernel
theorem dX4_put_122 : decode cX4_put 122 = .ok (.iaload, 1) := by decide +kernel
theorem dX4_put_123 : decode cX4_put 123 = .ok (.iastore, 1) := by decide +kernel
theorem dX4_put_124 : decode cX4_put 124 = .ok (.iinc 3 (-1), 3) := by decide +kernel
theorem dX4_put_127 : decode cX4_put 127 = .ok (.goto (-65), 3) := by decide +kernel
theorem dX4_put_130 : decode cX4_put 130 = .ok (.iconst 0, 1) := by decide +kernel
theorem dX4_put_131 : decode cX4_put 131 = .ok (.istore_n 3, 1) := by decide +kernel
theorem dX4_put_132 : decode cX4_put 132 = .ok (.iload_n 3, 1) := by decide +kernel
theorem dX4_put_133 : decode cX4_put 133 = .ok (.bipush 40, 2) := by decide +kernel
theorem dX4_put_135 : decode cX4_put 135 = .ok (.if_icmp .ge 26, 3) := by decide +kernel
theorem dX4_put_138 : decode cX4_put 138 = .ok (.aload_n 0, 1) := by decide +kernel
theorem dX4_put_139 : decode cX4_put 139 = .ok (.getfield 20, 3) := by decide +kernel
theorem dX4_put_142 : decode cX4_put 142 = .ok (.bipush 40, 2) := by decide +kernel
theorem dX4_put_144 : decode cX4_put 144 = .ok (.iload_n 2, 1) := by decide +kernel
theorem dX4_put_145 : decode cX4_put 145 = .ok (.imul, 1) := by decide +kernel
theorem dX4_put_146 : decode cX4_put 146 = .ok (.iload_n 3, 1) := by decide +kernel
theorem dX4_put_147 : decode cX4_put 147 = .ok (.iadd, 1) := by decide +kernel
theorem dX4_put_148 : decode cX4_put 148 = .ok (.aload_n 0, 1) := by decide +kernel
theorem dX4_put_149 : decode cX4_put 149 = .ok (.getfield 17, 3) := by decide +kernel
theorem dX4_put_152 : decode cX4_put 152 = .ok (.iload_n 3, 1) := by decide +kernel
theorem dX4_put_153 : decode cX4_put 153 = .ok (.iaload, 1) := by decide +kernel
theorem dX4_put_154 : decode cX4_put 154 = .ok (.iastore, 1) := by decide +kernel
theorem dX4_put_155 : decode cX4_put 155 = .ok (.iinc 3 1, 3) := by decide +kernel
theorem dX4_put_158 : decode cX4_put 158 = .ok (.goto (-26), 3) := by decide +kernel
theorem dX4_put_161 : decode cX4_put 161 = .ok (.aload_n 0, 1) := by decide +kernel
theorem dX4_put_162 : decode cX4_put 162 = .ok (.getfield 23, 3) := by decide +kernel
theorem dX4_put_165 : decode cX4_put 165 = .ok (.iload_n 2, 1) := by decide +kernel
theorem dX4_put_166 : decode cX4_put 166 = .ok (.iload_n 1, 1) := by decide +kernel
theorem dX4_put_167 : decode cX4_put 167 = .ok (.iastore, 1) := by decide +kernel
theorem dX4_put_168 : decode cX4_put 168 = .ok (.aload_n 0, 1) := by decide +kernel
theorem dX4_put_169 : decode cX4_put 169 = .ok (.dup, 1) := by decide +kernel
theorem dX4_put_170 : decode cX4_put 170 = .ok (.getfield 118, 3) := by decide +kernel
theorem dX4_put_173 : decode cX4_put 173 = .ok (.iconst 1, 1) := by decide +kernel
theorem dX4_put_174 : decode cX4_put 174 = .ok (.iadd, 1) := by decide +kernel
theorem dX4_put_175 : decode cX4_put 175 = .ok (.putfield 118, 3) := by decide +kernel
theorem dX4_put_178 : decode cX4_put 178 = .ok (.iload_n 2, 1) := by decide +kernel
theorem dX4_put_179 : decode cX4_put 179 = .ok (.ireturn, 1) := by decide +kernel
theorem dX4_shelf_0 : decode cX4_shelf 0 = .ok (.aload_n 0, 1) := by decide +kernel
theorem dX4_shelf_1 : decode cX4_shelf 1 = .ok (.iconst 0, 1) := by decide +kernel
theorem dX4_shelf_2 : decode cX4_shelf 2 = .ok (.putfield 33, 3) := by decide +kernel
theorem dX4_shelf_5 : decode cX4_shelf 5 = .ok (.iload_n 1, 1) := by decide +kernel
theorem dX4_shelf_6 : decode cX4_shelf 6 = .ok (.ifCond .lt 11, 3) := by decide +kernel
theorem dX4_shelf_9 : decode cX4_shelf 9 = .ok (.iload_n 1, 1) := by decide +kernel
theorem dX4_shelf_10 : decode cX4_shelf 10 = .ok (.aload_n 0, 1) := by decide +kernel
theorem dX4_shelf_11 : decode cX4_shelf 11 = .ok (.getfield 118, 3) := by decide +kernel
theorem dX4_shelf_14 : decode cX4_shelf 14 = .ok (.if_icmp .lt 7, 3) := by decide +kernel
theorem dX4_shelf_17 : decode cX4_shelf 17 = .ok (.iconst (-1), 1) := by decide +kernel
theorem dX4_shelf_18 : decode cX4_shelf 18 = .ok (.goto 9, 3) := by decide +kernel
theorem dX4_shelf_21 : decode cX4_shelf 21 = .ok (.aload_n 0, 1) := by decide +kernel
theorem dX4_shelf_22 : decode cX4_shelf 22 = .ok (.getfield 23, 3) := by decide +kernel
theorem dX4_shelf_25 : decode cX4_shelf 25 = .ok (.iload_n 1, 1) := by decide +kernel
theorem dX4_shelf_26 : decode cX4_shelf 26 = .ok (.iaload, 1) := by decide +kernel
theorem dX4_shelf_27 : decode cX4_shelf 27 = .ok (.ireturn, 1) := by decide +kernel
theorem dX4_take_0 : decode cX4_take 0 = .ok (.aload_n 0, 1) := by decide +kernel
theorem dX4_take_1 : decode cX4_take 1 = .ok (.iconst 0, 1) := by decide +kernel
theorem dX4_take_2 : decode cX4_take 2 = .ok (.putfield 33, 3) := by decide +kernel
theorem dX4_take_5 : decode cX4_take 5 = .ok (.iload_n 1, 1) := by decide +kernel
theorem dX4_take_6 : decode cX4_take 6 = .ok (.ifCond .lt 11, 3) := by decide +kernel
theorem dX4_take_9 : decode cX4_take 9 = .ok (.iload_n 1, 1) := by decide +kernel
theorem dX4_take_10 : decode cX4_take 10 = .ok (.aload_n 0, 1) := by decide +kernel
theorem dX4_take_11 : decode cX4_take 11 = .ok (.getfield 118, 3) := by decide +kernel
theorem dX4_take_14 : decode cX4_take 14 = .ok (.if_icmp .lt 5, 3) := by decide +kernel
theorem dX4_take_17 : decode cX4_take 17 = .ok (.iconst (-1), 1) := by decide +kernel
theorem dX4_take_18 : decode cX4_take 18 = .ok (.ireturn, 1) := by decide +kernel
theorem dX4_take_19 : decode cX4_take 19 = .ok (.aload_n 0, 1) := by decide +kernel
theorem dX4_take_20 : decode cX4_take 20 = .ok (.getfield 23, 3) := by decide +kernel
theorem dX4_take_23 : decode cX4_take 23 = .ok (.iload_n 1, 1) := by decide +kernel
theorem dX4_take_24 : decode cX4_take 24 = .ok (.iaload, 1) := by decide +kernel
theorem dX4_take_25 : decode cX4_take 25 = .ok (.istore_n 2, 1) := by decide +kernel
theorem dX4_take_26 : decode cX4_take 26 = .ok (.aload_n 0, 1) := by decide +kernel
theorem dX4_take_27 : decode cX4_take 27 = .ok (.dup, 1) := by decide +kernel
theorem dX4_take_28 : decode cX4_take 28 = .ok (.getfield 118, 3) := by decide +kernel
theorem dX4_take_31 : decode cX4_take 31 = .ok (.iconst 1, 1) := by decide +kernel
theorem dX4_take_32 : decode cX4_take 32 = .ok (.isub, 1) := by decide +kernel
theorem dX4_take_33 : decode cX4_take 33 = .ok (.putfield 118, 3) := by decide +kernel
theorem dX4_take_36 : decode cX4_take 36 = .ok (.iload_n 1, 1) := by decide +kernel
theorem dX4_take_37 : decode cX4_take 37 = .ok (.istore_n 3, 1) := by decide +kernel
theorem dX4_take_38 : decode cX4_take 38 = .ok (.iload_n 3, 1) := by decide +kernel
theorem dX4_take_39 : decode cX4_take 39 = .ok (.aload_n 0, 1) := by decide +kernel
theorem dX4_take_40 : decode cX4_take 40 = .ok (.getfield 118, 3) := by decide +kernel
theorem dX4_take_43 : decode cX4_take 43 = .ok (.if_icmp .ge 66, 3) := by decide +kernel
theorem dX4_take_46 : decode cX4_take 46 = .ok (.iconst 0, 1) := by decide +kernel
theorem dX4_take_47 : decode cX4_take 47 = .ok (.istore 4, 2) := by decide +kernel
theorem dX4_take_49 : decode cX4_take 49 = .ok (.iload 4, 2) := by decide +kernel
theorem dX4_take_51 : decode cX4_take 51 = .ok (.bipush 40, 2) := by decide +kernel
theorem dX4_take_53 : decode cX4_take 53 = .ok (.if_icmp .ge 36, 3) := by decide +kernel
theorem dX4_take_56 : decode cX4_take 56 = .ok (.aload_n 0, 1) := by decide +kernel
theorem dX4_take_57 : decode cX4_take 57 = .ok (.getfield 20, 3) := by decide +kernel
theorem dX4_take_60 : decode cX4_take 60 = .ok (.bipush 40, 2) := by decide +kernel
theorem dX4_take_62 : decode cX4_take 62 = .ok (.iload_n 3, 1) := by decide +kernel
theorem dX4_take_63 : decode cX4_take 63 = .ok (.imul, 1) := by decide +kernel
theorem dX4_take_64 : decode cX4_take 64 = .ok (.iload 4, 2) := by decide +kernel
theorem dX4_take_66 : decode cX4_take 66 = .ok (.iadd, 1) := by decide +kernel
theorem dX4_take_67 : decode cX4_take 67 = .ok (.aload_n 0, 1) := by decide +kernel
theorem dX4_take_68 : decode cX4_take 68 = .ok (.getfield 20, 3) := by decide +kernel
theorem dX4_take_71 : decode cX4_take 71 = .ok (.bipush 40, 2) := by decide +kernel
theorem dX4_take_73 : decode cX4_take 73 = .ok (.iload_n 3, 1) := by decide +kernel
theorem dX4_take_74 : decode cX4_take 74 = .ok (.imul, 1) := by decide +kernel
theorem dX4_take_75 : decode cX4_take 75 = .ok (.bipush 40, 2) := by decide +kernel
theorem dX4_take_77 : decode cX4_take 77 = .ok (.iadd, 1) := by decide +kernel
theorem dX4_take_78 : decode cX4_take 78 = .ok (.iload 4, 2) := by decide +kernel
theorem dX4_take_80 : decode cX4_take 80 = .ok (.iadd, 1) := by decide +kernel
theorem dX4_take_81 : decode cX4_take 81 = .ok (.iaload, 1) := by decide +kernel
theorem dX4_take_82 : decode cX4_take 82 = .ok (.iastore, 1) := by decide +kernel
theorem dX4_take_83 : decode cX4_take 83 = .ok (.iinc 4 1, 3) := by decide +kernel
theorem dX4_take_86 : decode cX4_take 86 = .ok (.goto (-37), 3) := by decide +kernel
theorem dX4_take_89 : decode cX4_take 89 = .ok (.aload_n 0, 1) := by decide +kernel
theorem dX4_take_90 : decode cX4_take 90 = .ok (.getfield 23, 3) := by decide +kernel
theorem dX4_take_93 : decode cX4_take 93 = .ok (.iload_n 3, 1) := by decide +kernel
theorem dX4_take_94 : decode cX4_take 94 = .ok (.aload_n 0, 1) := by decide +kernel
theorem dX4_take_95 : decode cX4_take 95 = .ok (.getfield 23, 3) := by decide +kernel
theorem dX4_take_98 : decode cX4_take 98 = .ok (.iload_n 3, 1) := by decide +kernel
theorem dX4_take_99 : decode cX4_take 99 = .ok (.iconst 1, 1) := by decide +kernel
theorem dX4_take_100 : decode cX4_take 100 = .ok (.iadd, 1) := by decide +kernel
theorem dX4_take_101 : decode cX4_take 101 = .ok (.iaload, 1) := by decide +kernel
theorem dX4_take_102 : decode cX4_take 102 = .ok (.iastore, 1) := by decide +kernel
theorem dX4_take_103 : decode cX4_take 103 = .ok (.iinc 3 1, 3) := by decide +kernel
theorem dX4_take_106 : decode cX4_take 106 = .ok (.goto (-68), 3) := by decide +kernel
theorem dX4_take_109 : decode cX4_take 109 = .ok (.iload_n 2, 1) := by decide +kernel
theorem dX4_take_110 : decode cX4_take 110 = .ok (.ireturn, 1) := by decide +kernel
theorem dX4_compare_0 : decode cX4_compare 0 = .ok (.aload_n 0, 1) := by decide +kernel
theorem dX4_compare_1 : decode cX4_compare 1 = .ok (.iconst 0, 1) := by decide +kernel
theorem dX4_compare_2 : decode cX4_compare 2 = .ok (.putfield 33, 3) := by decide +kernel
theorem dX4_compare_5 : decode cX4_compare 5 = .ok (.iload_n 1, 1) := by decide +kernel
theorem dX4_compare_6 : decode cX4_compare 6 = .ok (.ifCond .lt 23, 3) := by decide +kernel
theorem dX4_compare_9 : decode cX4_compare 9 = .ok (.iload_n 2, 1) := by decide +kernel
theorem dX4_compare_10 : decode cX4_compare 10 = .ok (.ifCond .lt 19, 3) := by decide +kernel
theorem dX4_compare_13 : decode cX4_compare 13 = .ok (.iload_n 1, 1) := by decide +kernel
theorem dX4_compare_14 : decode cX4_compare 14 = .ok (.aload_n 0, 1) := by decide +kernel
theorem dX4_compare_15 : decode cX4_compare 15 = .ok (.getfield 118, 3) := by decide +kernel
theorem dX4_compare_18 : decode cX4_compare 18 = .ok (.if_icmp .ge 11, 3) := by decide +kernel
theorem dX4_compare_21 : decode cX4_compare 21 = .ok (.iload_n 2, 1) := by decide +kernel
theorem dX4_compare_22 : decode cX4_compare 22 = .ok (.aload_n 0, 1) := by decide +kernel
theorem dX4_compare_23 : decode cX4_compare 23 = .ok (.getfield 118, 3) := by decide +kernel
theorem dX4_compare_26 : decode cX4_compare 26 = .ok (.if_icmp .lt 6, 3) := by decide +kernel
theorem dX4_compare_29 : decode cX4_compare 29 = .ok (.bipush (-2), 2) := by decide +kernel
theorem dX4_compare_31 : decode cX4_compare 31 = .ok (.ireturn, 1) := by decide +kernel
theorem dX4_compare_32 : decode cX4_compare 32 = .ok (.iload_n 1, 1) := by decide +kernel
theorem dX4_compare_33 : decode cX4_compare 33 = .ok (.iload_n 2, 1) := by decide +kernel
theorem dX4_compare_34 : decode cX4_compare 34 = .ok (.if_icmp .ge 7, 3) := by decide +kernel
theorem dX4_compare_37 : decode cX4_compare 37 = .ok (.iconst (-1), 1) := by decide +kernel
theorem dX4_compare_38 : decode cX4_compare 38 = .ok (.goto 13, 3) := by decide +kernel
theorem dX4_compare_41 : decode cX4_compare 41 = .ok (.iload_n 1, 1) := by decide +kernel
theorem dX4_compare_42 : decode cX4_compare 42 = .ok (.iload_n 2, 1) := by decide +kernel
theorem dX4_compare_43 : decode cX4_compare 43 = .ok (.if_icmp .le 7, 3) := by decide +kernel
theorem dX4_compare_46 : decode cX4_compare 46 = .ok (.iconst 1, 1) := by decide +kernel
theorem dX4_compare_47 : decode cX4_compare 47 = .ok (.goto 4, 3) := by decide +kernel
theorem dX4_compare_50 : decode cX4_compare 50 = .ok (.iconst 0, 1) := by decide +kernel
theorem dX4_compare_51 : decode cX4_compare 51 = .ok (.ireturn, 1) := by decide +kernel
theorem dX4_before_0 : decode cX4_before 0 = .ok (.aload_n 0, 1) := by decide +kernel
theorem dX4_before_1 : decode cX4_before 1 = .ok (.iconst 0, 1) := by decide +kernel
theorem dX4_before_2 : decode cX4_before 2 = .ok (.putfield 33, 3) := by decide +kernel
theorem dX4_before_5 : decode cX4_before 5 = .ok (.aload_n 0, 1) := by decide +kernel
theorem dX4_before_6 : decode cX4_before 6 = .ok (.getfield 91, 3) := by decide +kernel
theorem dX4_before_9 : decode cX4_before 9 = .ok (.ifCond .eq 10, 3) := by decide +kernel
theorem dX4_before_12 : decode cX4_before 12 = .ok (.aload_n 0, 1) := by decide +kernel
theorem dX4_before_13 : decode cX4_before 13 = .ok (.invokevirtual 125, 3) := by decide +kernel
theorem dX4_before_16 : decode cX4_before 16 = .ok (.goto 4, 3) := by decide +kernel
theorem dX4_before_19 : decode cX4_before 19 = .ok (.iconst (-1), 1) := by decide +kernel
theorem dX4_before_20 : decode cX4_before 20 = .ok (.ireturn, 1) := by decide +kernel
theorem dX4_isTaken_0 : decode cX4_isTaken 0 = .ok (.iconst 0, 1) := by decide +kernel
theorem dX4_isTaken_1 : decode cX4_isTaken 1 = .ok (.istore_n 1, 1) := by decide +kernel
theorem dX4_isTaken_2 : decode cX4_isTaken 2 = .ok (.iload_n 1, 1) := by decide +kernel
theorem dX4_isTaken_3 : decode cX4_isTaken 3 = .ok (.aload_n 0, 1) := by decide +kernel
theorem dX4_isTaken_4 : decode cX4_isTaken 4 = .ok (.getfield 118, 3) := by decide +kernel
theorem dX4_isTaken_7 : decode cX4_isTaken 7 = .ok (.if_icmp .ge 80, 3) := by decide +kernel
theorem dX4_isTaken_10 : decode cX4_isTaken 10 = .ok (.iconst 1, 1) := by decide +kernel
theorem dX4_isTaken_11 : decode cX4_isTaken 11 = .ok (.istore_n 2, 1) := by decide +kernel
theorem dX4_isTaken_12 : decode cX4_isTaken 12 = .ok (.iconst 0, 1) := by decide +kernel
theorem dX4_isTaken_13 : decode cX4_isTaken 13 = .ok (.istore_n 3, 1) := by decide +kernel
theorem dX4_isTaken_14 : decode cX4_isTaken 14 = .ok (.iload_n 3, 1) := by decide +kernel
theorem dX4_isTaken_15 : decode cX4_isTaken 15 = .ok (.bipush 23, 2) := by decide +kernel
theorem dX4_isTaken_17 : decode cX4_isTaken 17 = .ok (.if_icmp .ge 58, 3) := by decide +kernel
theorem dX4_isTaken_20 : decode cX4_isTaken 20 = .ok (.iload_n 3, 1) := by decide +kernel
theorem dX4_isTaken_21 : decode cX4_isTaken 21 = .ok (.bipush 17, 2) := by decide +kernel
theorem dX4_isTaken_23 : decode cX4_isTaken 23 = .ok (.if_icmp .ge 12, 3) := by decide +kernel
theorem dX4_isTaken_26 : decode cX4_isTaken 26 = .ok (.aload_n 0, 1) := by decide +kernel
theorem dX4_isTaken_27 : decode cX4_isTaken 27 = .ok (.getfield 17, 3) := by decide +kernel
theorem dX4_isTaken_30 : decode cX4_isTaken 30 = .ok (.iload_n 3, 1) := by decide +kernel
theorem dX4_isTaken_31 : decode cX4_isTaken 31 = .ok (.iaload, 1) := by decide +kernel
theorem dX4_isTaken_32 : decode cX4_isTaken 32 = .ok (.goto 9, 3) := by decide +kernel
theorem dX4_isTaken_35 : decode cX4_isTaken 35 = .ok (.aload_n 0, 1) := by decide +kernel
theorem dX4_isTaken_36 : decode cX4_isTaken 36 = .ok (.getfield 13, 3) := by decide +kernel
theorem dX4_isTaken_39 : decode cX4_isTaken 39 = .ok (.iload_n 3, 1) := by decide +kernel
theorem dX4_isTaken_40 : decode cX4_isTaken 40 = .ok (.iaload, 1) := by decide +kernel
theorem dX4_isTaken_41 : decode cX4_isTaken 41 = .ok (.istore 4, 2) := by decide +kernel
theorem dX4_isTaken_43 : decode cX4_isTaken 43 = .ok (.iload_n 2, 1) := by decide +kernel
theorem dX4_isTaken_44 : decode cX4_isTaken 44 = .ok (.ifCond .eq 23, 3) := by decide +kernel
theorem dX4_isTaken_47 : decode cX4_isTaken 47 = .ok (.aload_n 0, 1) := by decide +kernel
theorem dX4_isTaken_48 : decode cX4_isTaken 48 = .ok (.getfield 20, 3) := by decide +kernel
theorem dX4_isTaken_51 : decode cX4_isTaken 51 = .ok (.bipush 40, 2) := by decide +kernel
theorem dX4_isTaken_53 : decode cX4_isTaken 53 = .ok (.iload_n 1, 1) := by decide +kernel
theorem dX4_isTaken_54 : decode cX4_isTaken 54 = .ok (.imul, 1) := by decide +kernel
theorem dX4_isTaken_55 : decode cX4_isTaken 55 = .ok (.iload_n 3, 1) := by decide +kernel
theorem dX4_isTaken_56 : decode cX4_isTaken 56 = .ok (.iadd, 1) := by decide +kernel
theorem dX4_isTaken_57 : decode cX4_isTaken 57 = .ok (.iaload, 1) := by decide +kernel
theorem dX4_isTaken_58 : decode cX4_isTaken 58 = .ok (.iload 4, 2) := by decide +kernel
theorem dX4_isTaken_60 : decode cX4_isTaken 60 = .ok (.if_icmp .ne 7, 3) := by decide +kernel
theorem dX4_isTaken_63 : decode cX4_isTaken 63 = .ok (.iconst 1, 1) := by decide +kernel
theorem dX4_isTaken_64 : decode cX4_isTaken 64 = .ok (.goto 4, 3) := by decide +kernel
theorem dX4_isTaken_67 : decode cX4_isTaken 67 = .ok (.iconst 0, 1) := by decide +kernel
theorem dX4_isTaken_68 : decode cX4_isTaken 68 = .ok (.istore_n 2, 1) := by decide +kernel
theorem dX4_isTaken_69 : decode cX4_isTaken 69 = .ok (.iinc 3 1, 3) := by decide +kernel
theorem dX4_isTaken_72 : decode cX4_isTaken 72 = .ok (.goto (-58), 3) := by decide +kernel
theorem dX4_isTaken_75 : decode cX4_isTaken 75 = .ok (.iload_n 2, 1) := by decide +kernel
theorem dX4_isTaken_76 : decode cX4_isTaken 76 = .ok (.ifCond .eq 5, 3) := by decide +kernel
theorem dX4_isTaken_79 : decode cX4_isTaken 79 = .ok (.iconst 1, 1) := by decide +kernel
theorem dX4_isTaken_80 : decode cX4_isTaken 80 = .ok (.ireturn, 1) := by decide +kernel
theorem dX4_isTaken_81 : decode cX4_isTaken 81 = .ok (.iinc 1 1, 3) := by decide +kernel
theorem dX4_isTaken_84 : decode cX4_isTaken 84 = .ok (.goto (-82), 3) := by decide +kernel
theorem dX4_isTaken_87 : decode cX4_isTaken 87 = .ok (.iconst 0, 1) := by decide +kernel
theorem dX4_isTaken_88 : decode cX4_isTaken 88 = .ok (.ireturn, 1) := by decide +kernel
theorem dX4_free_0 : decode cX4_free 0 = .ok (.aload_n 0, 1) := by decide +kernel
theorem dX4_free_1 : decode cX4_free 1 = .ok (.iconst 0, 1) := by decide +kernel
theorem dX4_free_2 : decode cX4_free 2 = .ok (.putfield 33, 3) := by decide +kernel
theorem dX4_free_5 : decode cX4_free 5 = .ok (.aload_n 0, 1) := by decide +kernel
theorem dX4_free_6 : decode cX4_free 6 = .ok (.getfield 91, 3) := by decide +kernel
theorem dX4_free_9 : decode cX4_free 9 = .ok (.ifCond .ne 5, 3) := by decide +kernel
theorem dX4_free_12 : decode cX4_free 12 = .ok (.iconst 0, 1) := by decide +kernel
theorem dX4_free_13 : decode cX4_free 13 = .ok (.ireturn, 1) := by decide +kernel
theorem dX4_free_14 : decode cX4_free 14 = .ok (.aload_n 0, 1) := by decide +kernel
theorem dX4_free_15 : decode cX4_free 15 = .ok (.invokevirtual 111, 3) := by decide +kernel
theorem dX4_free_18 : decode cX4_free 18 = .ok (.istore_n 1, 1) := by decide +kernel
theorem dX4_free_19 : decode cX4_free 19 = .ok (.iconst 1, 1) := by decide +kernel
theorem dX4_free_20 : decode cX4_free 20 = .ok (.istore_n 2, 1) := by decide +kernel
theorem dX4_free_21 : decode cX4_free 21 = .ok (.iconst 0, 1) := by decide +kernel
theorem dX4_free_22 : decode cX4_free 22 = .ok (.istore_n 3, 1) := by decide +kernel
theorem dX4_free_23 : decode cX4_free 23 = .ok (.iload_n 1, 1) := by decide +kernel
theorem dX4_free_24 : decode cX4_free 24 = .ok (.iload_n 3, 1) := by decide +kernel
theorem dX4_free_25 : decode cX4_free 25 = .ok (.iadd, 1) := by decide +kernel
theorem dX4_free_26 : decode cX4_free 26 = .ok (.bipush 6, 2) := by decide +kernel
theorem dX4_free_28 : decode cX4_free 28 = .ok (.if_icmp .gt 180, 3) := by decide +kernel
theorem dX4_free_31 : decode cX4_free 31 = .ok (.iconst 0, 1) := by decide +kernel
theorem dX4_free_32 : decode cX4_free 32 = .ok (.istore 4, 2) := by decide +kernel
theorem dX4_free_34 : decode cX4_free 34 = .ok (.iload 4, 2) := by decide +kernel
theorem dX4_free_36 : decode cX4_free 36 = .ok (.iload_n 2, 1) := by decide +kernel
theorem dX4_free_37 : decode cX4_free 37 = .ok (.if_icmp .ge 160, 3) := by decide +kernel
theorem dX4_free_40 : decode cX4_free 40 = .ok (.iload 4, 2) := by decide +kernel
theorem dX4_free_42 : decode cX4_free 42 = .ok (.istore 5, 2) := by decide +kernel
theorem dX4_free_44 : decode cX4_free 44 = .ok (.iconst 5, 1) := by decide +kernel
theorem dX4_free_45 : decode cX4_free 45 = .ok (.istore 6, 2) := by decide +kernel
theorem dX4_free_47 : decode cX4_free 47 = .ok (.iload 6, 2) := by decide +kernel
theorem dX4_free_49 : decode cX4_free 49 = .ok (.ifCond .lt 92, 3) := by decide +kernel
theorem dX4_free_52 : decode cX4_free 52 = .ok (.iload 6, 2) := by decide +kernel
theorem dX4_free_54 : decode cX4_free 54 = .ok (.iload_n 1, 1) := by decide +kernel
theorem dX4_free_55 : decode cX4_free 55 = .ok (.if_icmp .lt 15, 3) := by decide +kernel
theorem dX4_free_58 : decode cX4_free 58 = .ok (.iload 6, 2) := by decide +kernel
theorem dX4_free_60 : decode cX4_free 60 = .ok (.iload_n 1, 1) := by decide +kernel
theorem dX4_free_61 : decode cX4_free 61 = .ok (.iload_n 3, 1) := by decide +kernel
theorem dX4_free_62 : decode cX4_free 62 = .ok (.iadd, 1) := by decide +kernel
theorem dX4_free_63 : decode cX4_free 63 = .ok (.if_icmp .ge 7, 3) := by decide +kernel
theorem dX4_free_66 : decode cX4_free 66 = .ok (.iconst 1, 1) := by decide +kernel
theorem dX4_free_67 : decode cX4_free 67 = .ok (.goto 4, 3) := by decide +kernel
theorem dX4_free_70 : decode cX4_free 70 = .ok (.iconst 0, 1) := by decide +kernel
theorem dX4_free_71 : decode cX4_free 71 = .ok (.istore 7, 2) := by decide +kernel
theorem dX4_free_73 : decode cX4_free 73 = .ok (.aload_n 0, 1) := by decide +kernel
theorem dX4_free_74 : decode cX4_free 74 = .ok (.getfield 13, 3) := by decide +kernel
theorem dX4_free_77 : decode cX4_free 77 = .ok (.bipush 17, 2) := by decide +kernel
theorem dX4_free_79 : decode cX4_free 79 = .ok (.iload 6, 2) := by decide +kernel
theorem dX4_free_81 : decode cX4_free 81 = .ok (.iadd, 1) := by decide +kernel
theorem dX4_free_82 : decode cX4_free 82 = .ok (.iload 6, 2) := by decide +kernel
theorem dX4_free_84 : decode cX4_free 84 = .ok (.iload_n 1, 1) := by decide +kernel
theorem dX4_free_85 : decode cX4_free 85 = .ok (.if_icmp .ge 16, 3) := by decide +kernel
theorem dX4_free_88 : decode cX4_free 88 = .ok (.aload_n 0, 1) := by decide +kernel
theorem dX4_free_89 : decode cX4_free 89 = .ok (.getfield 17, 3) := by decide +kernel
theorem dX4_free_92 : decode cX4_free 92 = .ok (.bipush 17, 2) := by decide +kernel
theorem dX4_free_94 : decode cX4_free 94 = .ok (.iload 6, 2) := by decide +kernel
theorem dX4_free_96 : decode cX4_free 96 = .ok (.iadd, 1) := by decide +kernel
theorem dX4_free_97 : decode cX4_free 97 = .ok (.iaload, 1) := by decide +kernel
theorem dX4_free_98 : decode cX4_free 98 = .ok (.goto 19, 3) := by decide +kernel
theorem dX4_free_101 : decode cX4_free 101 = .ok (.iload 7, 2) := by decide +kernel
theorem dX4_free_103 : decode cX4_free 103 = .ok (.ifCond .eq 13, 3) := by decide +kernel
theorem dX4_free_106 : decode cX4_free 106 = .ok (.iload 5, 2) := by decide +kernel
theorem dX4_free_108 : decode cX4_free 108 = .ok (.bipush 9, 2) := by decide +kernel
theorem dX4_free_110 : decode cX4_free 110 = .ok (.irem, 1) := by decide +kernel
theorem dX4_free_111 : decode cX4_free 111 = .ok (.iconst 2, 1) := by decide +kernel
theorem dX4_free_112 : decode cX4_free 112 = .ok (.iadd, 1) := by decide +kernel
theorem dX4_free_113 : decode cX4_free 113 = .ok (.goto 4, 3) := by decide +kernel
theorem dX4_free_116 : decode cX4_free 116 = .ok (.iconst 0, 1) := by decide +kernel
theorem dX4_free_117 : decode cX4_free 117 = .ok (.iastore, 1) := by decide +kernel
theorem dX4_free_118 : decode cX4_free 118 = .ok (.iload 7, 2) := by decide +kernel
theorem dX4_free_120 : decode cX4_free 120 = .ok (.ifCond .eq 11, 3) := by decide +kernel
theorem dX4_free_123 : decode cX4_free 123 = .ok (.iload 5, 2) := by decide +kernel
theorem dX4_free_125 : decode cX4_free 125 = .ok (.bipush 9, 2) := by decide +kernel
theorem dX4_free_127 : decode cX4_free 127 = .ok (.idiv, 1) := by decide +kernel
theorem dX4_free_128 : decode cX4_free 128 = .ok (.goto 5, 3) := by decide +kernel
theorem dX4_free_131 : decode cX4_free 131 = .ok (.iload 5, 2) := by decide +kernel
theorem dX4_free_133 : decode cX4_free 133 = .ok (.istore 5, 2) := by decide +kernel
theorem dX4_free_135 : decode cX4_free 135 = .ok (.iinc 6 (-1), 3) := by decide +kernel
theorem dX4_free_138 : decode cX4_free 138 = .ok (.goto (-91), 3) := by decide +kernel
theorem dX4_free_141 : decode cX4_free 141 = .ok (.aload_n 0, 1) := by decide +kernel
theorem dX4_free_142 : decode cX4_free 142 = .ok (.invokevirtual 128, 3) := by decide +kernel
theorem dX4_free_145 : decode cX4_free 145 = .ok (.ifCond .ne 46, 3) := by decide +kernel
theorem dX4_free_148 : decode cX4_free 148 = .ok (.iconst 0, 1) := by decide +kernel
theorem dX4_free_149 : decode cX4_free 149 = .ok (.istore 6, 2) := by decide +kernel
theorem dX4_free_151 : decode cX4_free 151 = .ok (.iconst 0, 1) := by decide +kernel
theorem dX4_free_152 : decode cX4_free 152 = .ok (.istore 7, 2) := by decide +kernel
theorem dX4_free_154 : decode cX4_free 154 = .ok (.iload 7, 2) := by decide +kernel
theorem dX4_free_156 : decode cX4_free 156 = .ok (.iload_n 1, 1) := by decide +kernel
theorem dX4_free_157 : decode cX4_free 157 = .ok (.iload_n 3, 1) := by decide +kernel
theorem dX4_free_158 : decode cX4_free 158 = .ok (.iadd, 1) := by decide +kernel
theorem dX4_free_159 : decode cX4_free 159 = .ok (.if_icmp .ge 29, 3) := by decide +kernel
theorem dX4_free_162 : decode cX4_free 162 = .ok (.bipush 10, 2) := by decide +kernel
theorem dX4_free_164 : decode cX4_free 164 = .ok (.iload 6, 2) := by decide +kernel
theorem dX4_free_166 : decode cX4_free 166 = .ok (.imul, 1) := by decide +kernel
theorem dX4_free_167 : decode cX4_free 167 = .ok (.aload_n 0, 1) := by decide +kernel
theorem dX4_free_168 : decode cX4_free 168 = .ok (.getfield 13, 3) := by decide +kernel
theorem dX4_free_171 : decode cX4_free 171 = .ok (.bipush 17, 2) := by decide +kernel
theorem dX4_free_173 : decode cX4_free 173 = .ok (.iload 7, 2) := by decide +kernel
theorem dX4_free_175 : decode cX4_free 175 = .ok (.iadd, 1) := by decide +kernel
theorem dX4_free_176 : decode cX4_free 176 = .ok (.iaload, 1) := by decide +kernel
theorem dX4_free_177 : decode cX4_free 177 = .ok (.iadd, 1) := by decide +kernel
theorem dX4_free_178 : decode cX4_free 178 = .ok (.iconst 1, 1) := by decide +kernel
theorem dX4_free_179 : decode cX4_free 179 = .ok (.isub, 1) := by decide +kernel
theorem dX4_free_180 : decode cX4_free 180 = .ok (.istore 6, 2) := by decide +kernel
theorem dX4_free_182 : decode cX4_free 182 = .ok (.iinc 7 1, 3) := by decide +kernel
theorem dX4_free_185 : decode cX4_free 185 = .ok (.goto (-31), 3) := by decide +kernel
theorem dX4_free_188 : decode cX4_free 188 = .ok (.iload 6, 2) := by decide +kernel
theorem dX4_free_190 : decode cX4_free 190 = .ok (.ireturn, 1) := by decide +kernel
theorem dX4_free_191 : decode cX4_free 191 = .ok (.iinc 4 1, 3) := by decide +kernel
theorem dX4_free_194 : decode cX4_free 194 = .ok (.goto (-160), 3) := by decide +kernel
theorem dX4_free_197 : decode cX4_free 197 = .ok (.bipush 9, 2) := by decide +kernel
theorem dX4_free_199 : decode cX4_free 199 = .ok (.iload_n 2, 1) := by decide +kernel
theorem dX4_free_200 : decode cX4_free 200 = .ok (.imul, 1) := by decide +kernel
theorem dX4_free_201 : decode cX4_free 201 = .ok (.istore_n 2, 1) := by decide +kernel
theorem dX4_free_202 : decode cX4_free 202 = .ok (.iinc 3 1, 3) := by decide +kernel
theorem dX4_free_205 : decode cX4_free 205 = .ok (.goto (-182), 3) := by decide +kernel
theorem dX4_free_208 : decode cX4_free 208 = .ok (.iconst 0, 1) := by decide +kernel
theorem dX4_free_209 : decode cX4_free 209 = .ok (.ireturn, 1) := by decide +kernel
theorem dX4_pass_0 : decode cX4_pass 0 = .ok (.aload_n 0, 1) := by decide +kernel
theorem dX4_pass_1 : decode cX4_pass 1 = .ok (.iconst 0, 1) := by decide +kernel
theorem dX4_pass_2 : decode cX4_pass 2 = .ok (.putfield 33, 3) := by decide +kernel
theorem dX4_pass_5 : decode cX4_pass 5 = .ok (.iconst 0, 1) := by decide +kernel
theorem dX4_pass_6 : decode cX4_pass 6 = .ok (.istore_n 2, 1) := by decide +kernel
theorem dX4_pass_7 : decode cX4_pass 7 = .ok (.iload_n 2, 1) := by decide +kernel
theorem dX4_pass_8 : decode cX4_pass 8 = .ok (.aload_n 0, 1) := by decide +kernel
theorem dX4_pass_9 : decode cX4_pass 9 = .ok (.getfield 118, 3) := by decide +kernel
theorem dX4_pass_12 : decode cX4_pass 12 = .ok (.if_icmp .ge 140, 3) := by decide +kernel
theorem dX4_pass_15 : decode cX4_pass 15 = .ok (.aload_n 0, 1) := by decide +kernel
theorem dX4_pass_16 : decode cX4_pass 16 = .ok (.getfield 23, 3) := by decide +kernel
theorem dX4_pass_19 : decode cX4_pass 19 = .ok (.iload_n 2, 1) := by decide +kernel
theorem dX4_pass_20 : decode cX4_pass 20 = .ok (.iaload, 1) := by decide +kernel
theorem dX4_pass_21 : decode cX4_pass 21 = .ok (.iload_n 1, 1) := by decide +kernel
theorem dX4_pass_22 : decode cX4_pass 22 = .ok (.if_icmp .ne 124, 3) := by decide +kernel
theorem dX4_pass_25 : decode cX4_pass 25 = .ok (.iconst 1, 1) := by decide +kernel
theorem dX4_pass_26 : decode cX4_pass 26 = .ok (.istore_n 3, 1) := by decide +kernel
theorem dX4_pass_27 : decode cX4_pass 27 = .ok (.iconst 0, 1) := by decide +kernel
theorem dX4_pass_28 : decode cX4_pass 28 = .ok (.istore 4, 2) := by decide +kernel
theorem dX4_pass_30 : decode cX4_pass 30 = .ok (.iload 4, 2) := by decide +kernel
theorem dX4_pass_32 : decode cX4_pass 32 = .ok (.bipush 34, 2) := by decide +kernel
theorem dX4_pass_34 : decode cX4_pass 34 = .ok (.if_icmp .ge 70, 3) := by decide +kernel
theorem dX4_pass_37 : decode cX4_pass 37 = .ok (.aload_n 0, 1) := by decide +kernel
theorem dX4_pass_38 : decode cX4_pass 38 = .ok (.getfield 131, 3) := by decide +kernel
theorem dX4_pass_41 : decode cX4_pass 41 = .ok (.ifCond .eq 63, 3) := by decide +kernel
theorem dX4_pass_44 : decode cX4_pass 44 = .ok (.aload_n 0, 1) := by decide +kernel
theorem dX4_pass_45 : decode cX4_pass 45 = .ok (.getfield 20, 3) := by decide +kernel
theorem dX4_pass_48 : decode cX4_pass 48 = .ok (.bipush 40, 2) := by decide +kernel
theorem dX4_pass_50 : decode cX4_pass 50 = .ok (.iload_n 2, 1) := by decide +kernel
theorem dX4_pass_51 : decode cX4_pass 51 = .ok (.imul, 1) := by decide +kernel
theorem dX4_pass_52 : decode cX4_pass 52 = .ok (.iload 4, 2) := by decide +kernel
theorem dX4_pass_54 : decode cX4_pass 54 = .ok (.iadd, 1) := by decide +kernel
theorem dX4_pass_55 : decode cX4_pass 55 = .ok (.iaload, 1) := by decide +kernel
theorem dX4_pass_56 : decode cX4_pass 56 = .ok (.aload_n 0, 1) := by decide +kernel
theorem dX4_pass_57 : decode cX4_pass 57 = .ok (.getfield 26, 3) := by decide +kernel
theorem dX4_pass_60 : decode cX4_pass 60 = .ok (.iload 4, 2) := by decide +kernel
theorem dX4_pass_62 : decode cX4_pass 62 = .ok (.iaload, 1) := by decide +kernel
theorem dX4_pass_63 : decode cX4_pass 63 = .ok (.if_icmp .eq 35, 3) := by decide +kernel
theorem dX4_pass_66 : decode cX4_pass 66 = .ok (.aload_n 0, 1) := by decide +kernel
theorem dX4_pass_67 : decode cX4_pass 67 = .ok (.getfield 20, 3) := by decide +kernel
theorem dX4_pass_70 : decode cX4_pass 70 = .ok (.bipush 40, 2) := by decide +kernel
theorem dX4_pass_72 : decode cX4_pass 72 = .ok (.iload_n 2, 1) := by decide +kernel
theorem dX4_pass_73 : decode cX4_pass 73 = .ok (.imul, 1) := by decide +kernel
theorem dX4_pass_74 : decode cX4_pass 74 = .ok (.iload 4, 2) := by decide +kernel
theorem dX4_pass_76 : decode cX4_pass 76 = .ok (.iadd, 1) := by decide +kernel
theorem dX4_pass_77 : decode cX4_pass 77 = .ok (.iaload, 1) := by decide +kernel
theorem dX4_pass_78 : decode cX4_pass 78 = .ok (.aload_n 0, 1) := by decide +kernel
theorem dX4_pass_79 : decode cX4_pass 79 = .ok (.getfield 26, 3) := by decide +kernel
theorem dX4_pass_82 : decode cX4_pass 82 = .ok (.iload 4, 2) := by decide +kernel
theorem dX4_pass_84 : decode cX4_pass 84 = .ok (.iaload, 1) := by decide +kernel
theorem dX4_pass_85 : decode cX4_pass 85 = .ok (.if_icmp .le 7, 3) := by decide +kernel
theorem dX4_pass_88 : decode cX4_pass 88 = .ok (.iconst 1, 1) := by decide +kernel
theorem dX4_pass_89 : decode cX4_pass 89 = .ok (.goto 4, 3) := by decide +kernel
theorem dX4_pass_92 : decode cX4_pass 92 = .ok (.iconst 0, 1) := by decide +kernel
theorem dX4_pass_93 : decode cX4_pass 93 = .ok (.istore_n 3, 1) := by decide +kernel
theorem dX4_pass_94 : decode cX4_pass 94 = .ok (.bipush 34, 2) := by decide +kernel
theorem dX4_pass_96 : decode cX4_pass 96 = .ok (.istore 4, 2) := by decide +kernel
theorem dX4_pass_98 : decode cX4_pass 98 = .ok (.iinc 4 1, 3) := by decide +kernel
theorem dX4_pass_101 : decode cX4_pass 101 = .ok (.goto (-71), 3) := by decide +kernel
theorem dX4_pass_104 : decode cX4_pass 104 = .ok (.iconst 0, 1) := by decide +kernel
theorem dX4_pass_105 : decode cX4_pass 105 = .ok (.istore 4, 2) := by decide +kernel
theorem dX4_pass_107 : decode cX4_pass 107 = .ok (.iload 4, 2) := by decide +kernel
theorem dX4_pass_109 : decode cX4_pass 109 = .ok (.bipush 40, 2) := by decide +kernel
theorem dX4_pass_111 : decode cX4_pass 111 = .ok (.if_icmp .ge 28, 3) := by decide +kernel
theorem dX4_pass_114 : decode cX4_pass 114 = .ok (.aload_n 0, 1) := by decide +kernel
theorem dX4_pass_115 : decode cX4_pass 115 = .ok (.getfield 26, 3) := by decide +kernel
theorem dX4_pass_118 : decode cX4_pass 118 = .ok (.iload 4, 2) := by decide +kernel
theorem dX4_pass_120 : decode cX4_pass 120 = .ok (.aload_n 0, 1) := by decide +kernel
theorem dX4_pass_121 : decode cX4_pass 121 = .ok (.getfield 20, 3) := by decide +kernel
theorem dX4_pass_124 : decode cX4_pass 124 = .ok (.bipush 40, 2) := by decide +kernel
theorem dX4_pass_126 : decode cX4_pass 126 = .ok (.iload_n 2, 1) := by decide +kernel
theorem dX4_pass_127 : decode cX4_pass 127 = .ok (.imul, 1) := by decide +kernel
theorem dX4_pass_128 : decode cX4_pass 128 = .ok (.iload 4, 2) := by decide +kernel
theorem dX4_pass_130 : decode cX4_pass 130 = .ok (.iadd, 1) := by decide +kernel
theorem dX4_pass_131 : decode cX4_pass 131 = .ok (.iaload, 1) := by decide +kernel
theorem dX4_pass_132 : decode cX4_pass 132 = .ok (.iastore, 1) := by decide +kernel
theorem dX4_pass_133 : decode cX4_pass 133 = .ok (.iinc 4 1, 3) := by decide +kernel
theorem dX4_pass_136 : decode cX4_pass 136 = .ok (.goto (-29), 3) := by decide +kernel
theorem dX4_pass_139 : decode cX4_pass 139 = .ok (.aload_n 0, 1) := by decide +kernel
theorem dX4_pass_140 : decode cX4_pass 140 = .ok (.iconst 1, 1) := by decide +kernel
theorem dX4_pass_141 : decode cX4_pass 141 = .ok (.putfield 131, 3) := by decide +kernel
theorem dX4_pass_144 : decode cX4_pass 144 = .ok (.iload_n 3, 1) := by decide +kernel
theorem dX4_pass_145 : decode cX4_pass 145 = .ok (.ireturn, 1) := by decide +kernel
theorem dX4_pass_146 : decode cX4_pass 146 = .ok (.iinc 2 1, 3) := by decide +kernel
theorem dX4_pass_149 : decode cX4_pass 149 = .ok (.goto (-142), 3) := by decide +kernel
theorem dX4_pass_152 : decode cX4_pass 152 = .ok (.iconst (-1), 1) := by decide +kernel
theorem dX4_pass_153 : decode cX4_pass 153 = .ok (.ireturn, 1) := by decide +kernel
