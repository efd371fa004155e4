theorem dX0_init_0 : decode cX0_init 0 = .ok (.aload_n 0, 1) := by decide +kernel
theorem dX0_init_1 : decode cX0_init 1 = .ok (.invokespecial 3, 3) := by decide +kernel
theorem dX0_init_4 : decode cX0_init 4 = .ok (.aload_n 0, 1) := by decide +kernel
theorem dX0_init_5 : decode cX0_init 5 = .ok (.bipush 6, 2) := by decide +kernel
theorem dX0_init_7 : decode cX0_init 7 = .ok (.newarray .int, 2) := by decide +kernel
theorem dX0_init_9 : decode cX0_init 9 = .ok (.putfield 9, 3) := by decide +kernel
theorem dX0_init_12 : decode cX0_init 12 = .ok (.return_, 1) := by decide +kernel
theorem dX0_addLine_0 : decode cX0_addLine 0 = .ok (.aload_n 0, 1) := by decide +kernel
theorem dX0_addLine_1 : decode cX0_addLine 1 = .ok (.getfield 15, 3) := by decide +kernel
theorem dX0_addLine_4 : decode cX0_addLine 4 = .ok (.aload_n 0, 1) := by decide +kernel
theorem dX0_addLine_5 : decode cX0_addLine 5 = .ok (.getfield 9, 3) := by decide +kernel
theorem dX0_addLine_8 : decode cX0_addLine 8 = .ok (.arraylength, 1) := by decide +kernel
theorem dX0_addLine_9 : decode cX0_addLine 9 = .ok (.if_icmp .ge 23, 3) := by decide +kernel
theorem dX0_addLine_12 : decode cX0_addLine 12 = .ok (.aload_n 0, 1) := by decide +kernel
theorem dX0_addLine_13 : decode cX0_addLine 13 = .ok (.getfield 9, 3) := by decide +kernel
theorem dX0_addLine_16 : decode cX0_addLine 16 = .ok (.aload_n 0, 1) := by decide +kernel
theorem dX0_addLine_17 : decode cX0_addLine 17 = .ok (.getfield 15, 3) := by decide +kernel
theorem dX0_addLine_20 : decode cX0_addLine 20 = .ok (.iload_n 1, 1) := by decide +kernel
theorem dX0_addLine_21 : decode cX0_addLine 21 = .ok (.iastore, 1) := by decide +kernel
theorem dX0_addLine_22 : decode cX0_addLine 22 = .ok (.aload_n 0, 1) := by decide +kernel
theorem dX0_addLine_23 : decode cX0_addLine 23 = .ok (.dup, 1) := by decide +kernel
theorem dX0_addLine_24 : decode cX0_addLine 24 = .ok (.getfield 15, 3) := by decide +kernel
theorem dX0_addLine_27 : decode cX0_addLine 27 = .ok (.iconst 1, 1) := by decide +kernel
theorem dX0_addLine_28 : decode cX0_addLine 28 = .ok (.iadd, 1) := by decide +kernel
theorem dX0_addLine_29 : decode cX0_addLine 29 = .ok (.putfield 15, 3) := by decide +kernel
theorem dX0_addLine_32 : decode cX0_addLine 32 = .ok (.return_, 1) := by decide +kernel
theorem dX0_lineAt_0 : decode cX0_lineAt 0 = .ok (.iload_n 1, 1) := by decide +kernel
theorem dX0_lineAt_1 : decode cX0_lineAt 1 = .ok (.ifCond .lt 29, 3) := by decide +kernel
theorem dX0_lineAt_4 : decode cX0_lineAt 4 = .ok (.iload_n 1, 1) := by decide +kernel
theorem dX0_lineAt_5 : decode cX0_lineAt 5 = .ok (.aload_n 0, 1) := by decide +kernel
theorem dX0_lineAt_6 : decode cX0_lineAt 6 = .ok (.getfield 15, 3) := by decide +kernel
theorem dX0_lineAt_9 : decode cX0_lineAt 9 = .ok (.if_icmp .ge 21, 3) := by decide +kernel
theorem dX0_lineAt_12 : decode cX0_lineAt 12 = .ok (.iload_n 1, 1) := by decide +kernel
theorem dX0_lineAt_13 : decode cX0_lineAt 13 = .ok (.aload_n 0, 1) := by decide +kernel
theorem dX0_lineAt_14 : decode cX0_lineAt 14 = .ok (.getfield 9, 3) := by decide +kernel
theorem dX0_lineAt_17 : decode cX0_lineAt 17 = .ok (.arraylength, 1) := by decide +kernel
theorem dX0_lineAt_18 : decode cX0_lineAt 18 = .ok (.if_icmp .ge 12, 3) := by decide +kernel
theorem dX0_lineAt_21 : decode cX0_lineAt 21 = .ok (.aload_n 0, 1) := by decide +kernel
theorem dX0_lineAt_22 : decode cX0_lineAt 22 = .ok (.getfield 9, 3) := by decide +kernel
theorem dX0_lineAt_25 : decode cX0_lineAt 25 = .ok (.iload_n 1, 1) := by decide +kernel
theorem dX0_lineAt_26 : decode cX0_lineAt 26 = .ok (.iaload, 1) := by decide +kernel
theorem dX0_lineAt_27 : decode cX0_lineAt 27 = .ok (.goto 4, 3) := by decide +kernel
theorem dX0_lineAt_30 : decode cX0_lineAt 30 = .ok (.iconst (-1), 1) := by decide +kernel
theorem dX0_lineAt_31 : decode cX0_lineAt 31 = .ok (.ireturn, 1) := by decide +kernel
theorem dX0_partCount_0 : decode cX0_partCount 0 = .ok (.aload_n 0, 1) := by decide +kernel
theorem dX0_partCount_1 : decode cX0_partCount 1 = .ok (.getfield 19, 3) := by decide +kernel
theorem dX0_partCount_4 : decode cX0_partCount 4 = .ok (.ifCond .le 12, 3) := by decide +kernel
theorem dX0_partCount_7 : decode cX0_partCount 7 = .ok (.aload_n 0, 1) := by decide +kernel
theorem dX0_partCount_8 : decode cX0_partCount 8 = .ok (.getfield 15, 3) := by decide +kernel
theorem dX0_partCount_11 : decode cX0_partCount 11 = .ok (.iconst 1, 1) := by decide +kernel
theorem dX0_partCount_12 : decode cX0_partCount 12 = .ok (.isub, 1) := by decide +kernel
theorem dX0_partCount_13 : decode cX0_partCount 13 = .ok (.goto 7, 3) := by decide +kernel
theorem dX0_partCount_16 : decode cX0_partCount 16 = .ok (.aload_n 0, 1) := by decide +kernel
theorem dX0_partCount_17 : decode cX0_partCount 17 = .ok (.getfield 15, 3) := by decide +kernel
theorem dX0_partCount_20 : decode cX0_partCount 20 = .ok (.ireturn, 1) := by decide +kernel
theorem dX0_capitalAt_0 : decode cX0_capitalAt 0 = .ok (.iload_n 1, 1) := by decide +kernel
theorem dX0_capitalAt_1 : decode cX0_capitalAt 1 = .ok (.ifCond .lt 11, 3) := by decide +kernel
theorem dX0_capitalAt_4 : decode cX0_capitalAt 4 = .ok (.iload_n 1, 1) := by decide +kernel
theorem dX0_capitalAt_5 : decode cX0_capitalAt 5 = .ok (.aload_n 0, 1) := by decide +kernel
theorem dX0_capitalAt_6 : decode cX0_capitalAt 6 = .ok (.getfield 19, 3) := by decide +kernel
theorem dX0_capitalAt_9 : decode cX0_capitalAt 9 = .ok (.if_icmp .le 5, 3) := by decide +kernel
theorem dX0_capitalAt_12 : decode cX0_capitalAt 12 = .ok (.iconst 0, 1) := by decide +kernel
theorem dX0_capitalAt_13 : decode cX0_capitalAt 13 = .ok (.ireturn, 1) := by decide +kernel
theorem dX0_capitalAt_14 : decode cX0_capitalAt 14 = .ok (.iload_n 1, 1) := by decide +kernel
theorem dX0_capitalAt_15 : decode cX0_capitalAt 15 = .ok (.aload_n 0, 1) := by decide +kernel
theorem dX0_capitalAt_16 : decode cX0_capitalAt 16 = .ok (.getfield 19, 3) := by decide +kernel
theorem dX0_capitalAt_19 : decode cX0_capitalAt 19 = .ok (.if_icmp .ne 8, 3) := by decide +kernel
theorem dX0_capitalAt_22 : decode cX0_capitalAt 22 = .ok (.aload_n 0, 1) := by decide +kernel
theorem dX0_capitalAt_23 : decode cX0_capitalAt 23 = .ok (.getfield 22, 3) := by decide +kernel
theorem dX0_capitalAt_26 : decode cX0_capitalAt 26 = .ok (.ireturn, 1) := by decide +kernel
theorem dX0_capitalAt_27 : decode cX0_capitalAt 27 = .ok (.aload_n 0, 1) := by decide +kernel
theorem dX0_capitalAt_28 : decode cX0_capitalAt 28 = .ok (.getfield 25, 3) := by decide +kernel
theorem dX0_capitalAt_31 : decode cX0_capitalAt 31 = .ok (.bipush 8, 2) := by decide +kernel
theorem dX0_capitalAt_33 : decode cX0_capitalAt 33 = .ok (.iconst 2, 1) := by decide +kernel
theorem dX0_capitalAt_34 : decode cX0_capitalAt 34 = .ok (.iload_n 1, 1) := by decide +kernel
theorem dX0_capitalAt_35 : decode cX0_capitalAt 35 = .ok (.isub, 1) := by decide +kernel
theorem dX0_capitalAt_36 : decode cX0_capitalAt 36 = .ok (.imul, 1) := by decide +kernel
theorem dX0_capitalAt_37 : decode cX0_capitalAt 37 = .ok (.ishr, 1) := by decide +kernel
theorem dX0_capitalAt_38 : decode cX0_capitalAt 38 = .ok (.sipush 255, 3) := by decide +kernel
theorem dX0_capitalAt_41 : decode cX0_capitalAt 41 = .ok (.iand, 1) := by decide +kernel
theorem dX0_capitalAt_42 : decode cX0_capitalAt 42 = .ok (.ireturn, 1) := by decide +kernel
theorem dX0_cutterAsWritten_0 : decode cX0_cutterAsWritten 0 = .ok (.aload_n 0, 1) := by decide +kernel
theorem dX0_cutterAsWritten_1 : decode cX0_cutterAsWritten 1 = .ok (.getfield 28, 3) := by decide +kernel
theorem dX0_cutterAsWritten_4 : decode cX0_cutterAsWritten 4 = .ok (.istore_n 1, 1) := by decide +kernel
theorem dX0_cutterAsWritten_5 : decode cX0_cutterAsWritten 5 = .ok (.aload_n 0, 1) := by decide +kernel
theorem dX0_cutterAsWritten_6 : decode cX0_cutterAsWritten 6 = .ok (.getfield 31, 3) := by decide +kernel
theorem dX0_cutterAsWritten_9 : decode cX0_cutterAsWritten 9 = .ok (.istore_n 2, 1) := by decide +kernel
theorem dX0_cutterAsWritten_10 : decode cX0_cutterAsWritten 10 = .ok (.iload_n 2, 1) := by decide +kernel
theorem dX0_cutterAsWritten_11 : decode cX0_cutterAsWritten 11 = .ok (.bipush 6, 2) := by decide +kernel
theorem dX0_cutterAsWritten_13 : decode cX0_cutterAsWritten 13 = .ok (.if_icmp .ge 14, 3) := by decide +kernel
theorem dX0_cutterAsWritten_16 : decode cX0_cutterAsWritten 16 = .ok (.iload_n 1, 1) := by decide +kernel
theorem dX0_cutterAsWritten_17 : decode cX0_cutterAsWritten 17 = .ok (.bipush 10, 2) := by decide +kernel
theorem dX0_cutterAsWritten_19 : decode cX0_cutterAsWritten 19 = .ok (.idiv, 1) := by decide +kernel
theorem dX0_cutterAsWritten_20 : decode cX0_cutterAsWritten 20 = .ok (.istore_n 1, 1) := by decide +kernel
theorem dX0_cutterAsWritten_21 : decode cX0_cutterAsWritten 21 = .ok (.iinc 2 1, 3) := by decide +kernel
theorem dX0_cutterAsWritten_24 : decode cX0_cutterAsWritten 24 = .ok (.goto (-14), 3) := by decide +kernel
theorem dX0_cutterAsWritten_27 : decode cX0_cutterAsWritten 27 = .ok (.iload_n 1, 1) := by decide +kernel
theorem dX0_cutterAsWritten_28 : decode cX0_cutterAsWritten 28 = .ok (.ireturn, 1) := by decide +kernel
theorem dX0_hasClassOf_0 : decode cX0_hasClassOf 0 = .ok (.aload_n 0, 1) := by decide +kernel
theorem dX0_hasClassOf_1 : decode cX0_hasClassOf 1 = .ok (.getfield 25, 3) := by decide +kernel
theorem dX0_hasClassOf_4 : decode cX0_hasClassOf 4 = .ok (.aload_n 1, 1) := by decide +kernel
theorem dX0_hasClassOf_5 : decode cX0_hasClassOf 5 = .ok (.getfield 25, 3) := by decide +kernel
theorem dX0_hasClassOf_8 : decode cX0_hasClassOf 8 = .ok (.if_icmp .ne 19, 3) := by decide +kernel
theorem dX0_hasClassOf_11 : decode cX0_hasClassOf 11 = .ok (.aload_n 0, 1) := by decide +kernel
theorem dX0_hasClassOf_12 : decode cX0_hasClassOf 12 = .ok (.getfield 34, 3) := by decide +kernel
theorem dX0_hasClassOf_15 : decode cX0_hasClassOf 15 = .ok (.aload_n 1, 1) := by decide +kernel
theorem dX0_hasClassOf_16 : decode cX0_hasClassOf 16 = .ok (.getfield 34, 3) := by decide +kernel
theorem dX0_hasClassOf_19 : decode cX0_hasClassOf 19 = .ok (.lcmp, 1) := by decide +kernel
theorem dX0_hasClassOf_20 : decode cX0_hasClassOf 20 = .ok (.ifCond .ne 7, 3) := by decide +kernel
theorem dX0_hasClassOf_23 : decode cX0_hasClassOf 23 = .ok (.iconst 1, 1) := by decide +kernel
theorem dX0_hasClassOf_24 : decode cX0_hasClassOf 24 = .ok (.goto 4, 3) := by decide +kernel
theorem dX0_hasClassOf_27 : decode cX0_hasClassOf 27 = .ok (.iconst 0, 1) := by decide +kernel
theorem dX0_hasClassOf_28 : decode cX0_hasClassOf 28 = .ok (.ireturn, 1) := by decide +kernel
