theorem dX0_init_0 : decode cX0_init 0 = .ok (.aload_n 0, 1) := by decide +kernel
theorem dX0_init_1 : decode cX0_init 1 = .ok (.invokespecial 1, 3) := by decide +kernel
theorem dX0_init_4 : decode cX0_init 4 = .ok (.aload_n 0, 1) := by decide +kernel
theorem dX0_init_5 : decode cX0_init 5 = .ok (.lload_n 1, 1) := by decide +kernel
theorem dX0_init_6 : decode cX0_init 6 = .ok (.putfield 7, 3) := by decide +kernel
theorem dX0_init_9 : decode cX0_init 9 = .ok (.aload_n 0, 1) := by decide +kernel
theorem dX0_init_10 : decode cX0_init 10 = .ok (.iload_n 3, 1) := by decide +kernel
theorem dX0_init_11 : decode cX0_init 11 = .ok (.putfield 13, 3) := by decide +kernel
theorem dX0_init_14 : decode cX0_init 14 = .ok (.aload_n 0, 1) := by decide +kernel
theorem dX0_init_15 : decode cX0_init 15 = .ok (.iload 4, 2) := by decide +kernel
theorem dX0_init_17 : decode cX0_init 17 = .ok (.putfield 17, 3) := by decide +kernel
theorem dX0_init_20 : decode cX0_init 20 = .ok (.aload_n 0, 1) := by decide +kernel
theorem dX0_init_21 : decode cX0_init 21 = .ok (.iload 5, 2) := by decide +kernel
theorem dX0_init_23 : decode cX0_init 23 = .ok (.putfield 20, 3) := by decide +kernel
theorem dX0_init_26 : decode cX0_init 26 = .ok (.aload_n 0, 1) := by decide +kernel
theorem dX0_init_27 : decode cX0_init 27 = .ok (.iload 6, 2) := by decide +kernel
theorem dX0_init_29 : decode cX0_init 29 = .ok (.putfield 23, 3) := by decide +kernel
theorem dX0_init_32 : decode cX0_init 32 = .ok (.aload_n 0, 1) := by decide +kernel
theorem dX0_init_33 : decode cX0_init 33 = .ok (.iload 7, 2) := by decide +kernel
theorem dX0_init_35 : decode cX0_init 35 = .ok (.putfield 26, 3) := by decide +kernel
theorem dX0_init_38 : decode cX0_init 38 = .ok (.return_, 1) := by decide +kernel
theorem dX0_isFor_0 : decode cX0_isFor 0 = .ok (.aload_n 0, 1) := by decide +kernel
theorem dX0_isFor_1 : decode cX0_isFor 1 = .ok (.getfield 23, 3) := by decide +kernel
theorem dX0_isFor_4 : decode cX0_isFor 4 = .ok (.iload_n 1, 1) := by decide +kernel
theorem dX0_isFor_5 : decode cX0_isFor 5 = .ok (.if_icmp .ne 15, 3) := by decide +kernel
theorem dX0_isFor_8 : decode cX0_isFor 8 = .ok (.aload_n 0, 1) := by decide +kernel
theorem dX0_isFor_9 : decode cX0_isFor 9 = .ok (.getfield 17, 3) := by decide +kernel
theorem dX0_isFor_12 : decode cX0_isFor 12 = .ok (.iload_n 2, 1) := by decide +kernel
theorem dX0_isFor_13 : decode cX0_isFor 13 = .ok (.if_icmp .ne 7, 3) := by decide +kernel
theorem dX0_isFor_16 : decode cX0_isFor 16 = .ok (.iconst 1, 1) := by decide +kernel
theorem dX0_isFor_17 : decode cX0_isFor 17 = .ok (.goto 4, 3) := by decide +kernel
theorem dX0_isFor_20 : decode cX0_isFor 20 = .ok (.iconst 0, 1) := by decide +kernel
theorem dX0_isFor_21 : decode cX0_isFor 21 = .ok (.ireturn, 1) := by decide +kernel
theorem dX1_init_0 : decode cX1_init 0 = .ok (.aload_n 0, 1) := by decide +kernel
theorem dX1_init_1 : decode cX1_init 1 = .ok (.invokespecial 3, 3) := by decide +kernel
theorem dX1_init_4 : decode cX1_init 4 = .ok (.aload_n 0, 1) := by decide +kernel
theorem dX1_init_5 : decode cX1_init 5 = .ok (.lconst 0, 1) := by decide +kernel
theorem dX1_init_6 : decode cX1_init 6 = .ok (.putfield 9, 3) := by decide +kernel
theorem dX1_init_9 : decode cX1_init 9 = .ok (.aload_n 0, 1) := by decide +kernel
theorem dX1_init_10 : decode cX1_init 10 = .ok (.iconst 0, 1) := by decide +kernel
theorem dX1_init_11 : decode cX1_init 11 = .ok (.putfield 15, 3) := by decide +kernel
theorem dX1_init_14 : decode cX1_init 14 = .ok (.aload_n 0, 1) := by decide +kernel
theorem dX1_init_15 : decode cX1_init 15 = .ok (.iload_n 1, 1) := by decide +kernel
theorem dX1_init_16 : decode cX1_init 16 = .ok (.putfield 19, 3) := by decide +kernel
theorem dX1_init_19 : decode cX1_init 19 = .ok (.aload_n 0, 1) := by decide +kernel
theorem dX1_init_20 : decode cX1_init 20 = .ok (.iload_n 2, 1) := by decide +kernel
theorem dX1_init_21 : decode cX1_init 21 = .ok (.putfield 23, 3) := by decide +kernel
theorem dX1_init_24 : decode cX1_init 24 = .ok (.aload_n 0, 1) := by decide +kernel
theorem dX1_init_25 : decode cX1_init 25 = .ok (.iload_n 3, 1) := by decide +kernel
theorem dX1_init_26 : decode cX1_init 26 = .ok (.putfield 26, 3) := by decide +kernel
theorem dX1_init_29 : decode cX1_init 29 = .ok (.aload_n 0, 1) := by decide +kernel
theorem dX1_init_30 : decode cX1_init 30 = .ok (.iload 4, 2) := by decide +kernel
theorem dX1_init_32 : decode cX1_init 32 = .ok (.putfield 29, 3) := by decide +kernel
theorem dX1_init_35 : decode cX1_init 35 = .ok (.aload_n 0, 1) := by decide +kernel
theorem dX1_init_36 : decode cX1_init 36 = .ok (.iload 5, 2) := by decide +kernel
theorem dX1_init_38 : decode cX1_init 38 = .ok (.putfield 32, 3) := by decide +kernel
theorem dX1_init_41 : decode cX1_init 41 = .ok (.aload_n 0, 1) := by decide +kernel
theorem dX1_init_42 : decode cX1_init 42 = .ok (.iload 6, 2) := by decide +kernel
theorem dX1_init_44 : decode cX1_init 44 = .ok (.putfield 35, 3) := by decide +kernel
theorem dX1_init_47 : decode cX1_init 47 = .ok (.return_, 1) := by decide +kernel
theorem dX1_restsOn_0 : decode cX1_restsOn 0 = .ok (.aload_n 0, 1) := by decide +kernel
theorem dX1_restsOn_1 : decode cX1_restsOn 1 = .ok (.getfield 9, 3) := by decide +kernel
theorem dX1_restsOn_4 : decode cX1_restsOn 4 = .ok (.aload_n 1, 1) := by decide +kernel
theorem dX1_restsOn_5 : decode cX1_restsOn 5 = .ok (.getfield 38, 3) := by decide +kernel
theorem dX1_restsOn_8 : decode cX1_restsOn 8 = .ok (.land, 1) := by decide +kernel
theorem dX1_restsOn_9 : decode cX1_restsOn 9 = .ok (.lconst 0, 1) := by decide +kernel
theorem dX1_restsOn_10 : decode cX1_restsOn 10 = .ok (.lcmp, 1) := by decide +kernel
theorem dX1_restsOn_11 : decode cX1_restsOn 11 = .ok (.ifCond .eq 7, 3) := by decide +kernel
theorem dX1_restsOn_14 : decode cX1_restsOn 14 = .ok (.iconst 1, 1) := by decide +kernel
theorem dX1_restsOn_15 : decode cX1_restsOn 15 = .ok (.goto 4, 3) := by decide +kernel
theorem dX1_restsOn_18 : decode cX1_restsOn 18 = .ok (.iconst 0, 1) := by decide +kernel
theorem dX1_restsOn_19 : decode cX1_restsOn 19 = .ok (.ireturn, 1) := by decide +kernel
theorem dX1_restNoMoreOn_0 : decode cX1_restNoMoreOn 0 = .ok (.aload_n 0, 1) := by decide +kernel
theorem dX1_restNoMoreOn_1 : decode cX1_restNoMoreOn 1 = .ok (.getfield 9, 3) := by decide +kernel
theorem dX1_restNoMoreOn_4 : decode cX1_restNoMoreOn 4 = .ok (.lload_n 1, 1) := by decide +kernel
theorem dX1_restNoMoreOn_5 : decode cX1_restNoMoreOn 5 = .ok (.land, 1) := by decide +kernel
theorem dX1_restNoMoreOn_6 : decode cX1_restNoMoreOn 6 = .ok (.lconst 0, 1) := by decide +kernel
theorem dX1_restNoMoreOn_7 : decode cX1_restNoMoreOn 7 = .ok (.lcmp, 1) := by decide +kernel
theorem dX1_restNoMoreOn_8 : decode cX1_restNoMoreOn 8 = .ok (.ifCond .eq 35, 3) := by decide +kernel
theorem dX1_restNoMoreOn_11 : decode cX1_restNoMoreOn 11 = .ok (.aload_n 0, 1) := by decide +kernel
theorem dX1_restNoMoreOn_12 : decode cX1_restNoMoreOn 12 = .ok (.dup, 1) := by decide +kernel
theorem dX1_restNoMoreOn_13 : decode cX1_restNoMoreOn 13 = .ok (.getfield 9, 3) := by decide +kernel
theorem dX1_restNoMoreOn_16 : decode cX1_restNoMoreOn 16 = .ok (.lload_n 1, 1) := by decide +kernel
theorem dX1_restNoMoreOn_17 : decode cX1_restNoMoreOn 17 = .ok (.ldc2_w 43, 3) := by decide +kernel
theorem dX1_restNoMoreOn_20 : decode cX1_restNoMoreOn 20 = .ok (.lxor, 1) := by decide +kernel
theorem dX1_restNoMoreOn_21 : decode cX1_restNoMoreOn 21 = .ok (.land, 1) := by decide +kernel
theorem dX1_restNoMoreOn_22 : decode cX1_restNoMoreOn 22 = .ok (.putfield 9, 3) := by decide +kernel
theorem dX1_restNoMoreOn_25 : decode cX1_restNoMoreOn 25 = .ok (.aload_n 0, 1) := by decide +kernel
theorem dX1_restNoMoreOn_26 : decode cX1_restNoMoreOn 26 = .ok (.aload_n 0, 1) := by decide +kernel
theorem dX1_restNoMoreOn_27 : decode cX1_restNoMoreOn 27 = .ok (.getfield 9, 3) := by decide +kernel
theorem dX1_restNoMoreOn_30 : decode cX1_restNoMoreOn 30 = .ok (.lconst 0, 1) := by decide +kernel
theorem dX1_restNoMoreOn_31 : decode cX1_restNoMoreOn 31 = .ok (.lcmp, 1) := by decide +kernel
theorem dX1_restNoMoreOn_32 : decode cX1_restNoMoreOn 32 = .ok (.ifCond .ne 7, 3) := by decide +kernel
theorem dX1_restNoMoreOn_35 : decode cX1_restNoMoreOn 35 = .ok (.iconst 1, 1) := by decide +kernel
theorem dX1_restNoMoreOn_36 : decode cX1_restNoMoreOn 36 = .ok (.goto 4, 3) := by decide +kernel
theorem dX1_restNoMoreOn_39 : decode cX1_restNoMoreOn 39 = .ok (.iconst 0, 1) := by decide +kernel
theorem dX1_restNoMoreOn_40 : decode cX1_restNoMoreOn 40 = .ok (.putfield 15, 3) := by decide +kernel
theorem dX1_restNoMoreOn_43 : decode cX1_restNoMoreOn 43 = .ok (.return_, 1) := by decide +kernel
theorem dX1_goesAt_0 : decode cX1_goesAt 0 = .ok (.aload_n 0, 1) := by decide +kernel
theorem dX1_goesAt_1 : decode cX1_goesAt 1 = .ok (.getfield 15, 3) := by decide +kernel
theorem dX1_goesAt_4 : decode cX1_goesAt 4 = .ok (.ifCond .ne 31, 3) := by decide +kernel
theorem dX1_goesAt_7 : decode cX1_goesAt 7 = .ok (.aload_n 0, 1) := by decide +kernel
theorem dX1_goesAt_8 : decode cX1_goesAt 8 = .ok (.getfield 29, 3) := by decide +kernel
theorem dX1_goesAt_11 : decode cX1_goesAt 11 = .ok (.iload_n 1, 1) := by decide +kernel
theorem dX1_goesAt_12 : decode cX1_goesAt 12 = .ok (.if_icmp .gt 23, 3) := by decide +kernel
theorem dX1_goesAt_15 : decode cX1_goesAt 15 = .ok (.iload_n 1, 1) := by decide +kernel
theorem dX1_goesAt_16 : decode cX1_goesAt 16 = .ok (.aload_n 0, 1) := by decide +kernel
theorem dX1_goesAt_17 : decode cX1_goesAt 17 = .ok (.getfield 32, 3) := by decide +kernel
theorem dX1_goesAt_20 : decode cX1_goesAt 20 = .ok (.if_icmp .gt 15, 3) := by decide +kernel
theorem dX1_goesAt_23 : decode cX1_goesAt 23 = .ok (.aload_n 0, 1) := by decide +kernel
theorem dX1_goesAt_24 : decode cX1_goesAt 24 = .ok (.getfield 35, 3) := by decide +kernel
theorem dX1_goesAt_27 : decode cX1_goesAt 27 = .ok (.iload_n 2, 1) := by decide +kernel
theorem dX1_goesAt_28 : decode cX1_goesAt 28 = .ok (.if_icmp .gt 7, 3) := by decide +kernel
theorem dX1_goesAt_31 : decode cX1_goesAt 31 = .ok (.iconst 1, 1) := by decide +kernel
theorem dX1_goesAt_32 : decode cX1_goesAt 32 = .ok (.goto 4, 3) := by decide +kernel
theorem dX1_goesAt_35 : decode cX1_goesAt 35 = .ok (.iconst 0, 1) := by decide +kernel
theorem dX1_goesAt_36 : decode cX1_goesAt 36 = .ok (.ireturn, 1) := by decide +kernel
theorem dX1_changes_0 : decode cX1_changes 0 = .ok (.iload_n 1, 1) := by decide +kernel
theorem dX1_changes_1 : decode cX1_changes 1 = .ok (.aload_n 0, 1) := by decide +kernel
theorem dX1_changes_2 : decode cX1_changes 2 = .ok (.getfield 19, 3) := by decide +kernel
theorem dX1_changes_5 : decode cX1_changes 5 = .ok (.if_icmp .ne 24, 3) := by decide +kernel
theorem dX1_changes_8 : decode cX1_changes 8 = .ok (.aload_n 0, 1) := by decide +kernel
theorem dX1_changes_9 : decode cX1_changes 9 = .ok (.getfield 26, 3) := by decide +kernel
theorem dX1_changes_12 : decode cX1_changes 12 = .ok (.bipush 9, 2) := by decide +kernel
theorem dX1_changes_14 : decode cX1_changes 14 = .ok (.if_icmp .eq 11, 3) := by decide +kernel
theorem dX1_changes_17 : decode cX1_changes 17 = .ok (.aload_n 0, 1) := by decide +kernel
theorem dX1_changes_18 : decode cX1_changes 18 = .ok (.getfield 26, 3) := by decide +kernel
theorem dX1_changes_21 : decode cX1_changes 21 = .ok (.iload_n 2, 1) := by decide +kernel
theorem dX1_changes_22 : decode cX1_changes 22 = .ok (.if_icmp .ne 7, 3) := by decide +kernel
theorem dX1_changes_25 : decode cX1_changes 25 = .ok (.iconst 1, 1) := by decide +kernel
theorem dX1_changes_26 : decode cX1_changes 26 = .ok (.goto 4, 3) := by decide +kernel
theorem dX1_changes_29 : decode cX1_changes 29 = .ok (.iconst 0, 1) := by decide +kernel
theorem dX1_changes_30 : decode cX1_changes 30 = .ok (.ireturn, 1) := by decide +kernel
theorem dX1_applyTo_0 : decode cX1_applyTo 0 = .ok (.iconst 0, 1) := by decide +kernel
theorem dX1_applyTo_1 : decode cX1_applyTo 1 = .ok (.istore_n 2, 1) := by decide +kernel
theorem dX1_applyTo_2 : decode cX1_applyTo 2 = .ok (.iconst 1, 1) := by decide +kernel
theorem dX1_applyTo_3 : decode cX1_applyTo 3 = .ok (.istore_n 3, 1) := by decide +kernel
theorem dX1_applyTo_4 : decode cX1_applyTo 4 = .ok (.iload_n 1, 1) := by decide +kernel
theorem dX1_applyTo_5 : decode cX1_applyTo 5 = .ok (.istore 4, 2) := by decide +kernel
theorem dX1_applyTo_7 : decode cX1_applyTo 7 = .ok (.bipush 8, 2) := by decide +kernel
theorem dX1_applyTo_9 : decode cX1_applyTo 9 = .ok (.istore 5, 2) := by decide +kernel
theorem dX1_applyTo_11 : decode cX1_applyTo 11 = .ok (.iconst 0, 1) := by decide +kernel
theorem dX1_applyTo_12 : decode cX1_applyTo 12 = .ok (.istore 6, 2) := by decide +kernel
theorem dX1_applyTo_14 : decode cX1_applyTo 14 = .ok (.iload 6, 2) := by decide +kernel
theorem dX1_applyTo_16 : decode cX1_applyTo 16 = .ok (.bipush 8, 2) := by decide +kernel
theorem dX1_applyTo_18 : decode cX1_applyTo 18 = .ok (.if_icmp .ge 76, 3) := by decide +kernel
theorem dX1_applyTo_21 : decode cX1_applyTo 21 = .ok (.iload 4, 2) := by decide +kernel
theorem dX1_applyTo_23 : decode cX1_applyTo 23 = .ok (.ifCond .le 71, 3) := by decide +kernel
theorem dX1_applyTo_26 : decode cX1_applyTo 26 = .ok (.iload 4, 2) := by decide +kernel
theorem dX1_applyTo_28 : decode cX1_applyTo 28 = .ok (.bipush 9, 2) := by decide +kernel
theorem dX1_applyTo_30 : decode cX1_applyTo 30 = .ok (.irem, 1) := by decide +kernel
theorem dX1_applyTo_31 : decode cX1_applyTo 31 = .ok (.iconst 1, 1) := by decide +kernel
theorem dX1_applyTo_32 : decode cX1_applyTo 32 = .ok (.isub, 1) := by decide +kernel
theorem dX1_applyTo_33 : decode cX1_applyTo 33 = .ok (.istore 7, 2) := by decide +kernel
theorem dX1_applyTo_35 : decode cX1_applyTo 35 = .ok (.aload_n 0, 1) := by decide +kernel
theorem dX1_applyTo_36 : decode cX1_applyTo 36 = .ok (.iload 7, 2) := by decide +kernel
theorem dX1_applyTo_38 : decode cX1_applyTo 38 = .ok (.iload 5, 2) := by decide +kernel
theorem dX1_applyTo_40 : decode cX1_applyTo 40 = .ok (.invokevirtual 45, 3) := by decide +kernel
theorem dX1_applyTo_43 : decode cX1_applyTo 43 = .ok (.ifCond .eq 10, 3) := by decide +kernel
theorem dX1_applyTo_46 : decode cX1_applyTo 46 = .ok (.aload_n 0, 1) := by decide +kernel
theorem dX1_applyTo_47 : decode cX1_applyTo 47 = .ok (.getfield 23, 3) := by decide +kernel
theorem dX1_applyTo_50 : decode cX1_applyTo 50 = .ok (.goto 5, 3) := by decide +kernel
theorem dX1_applyTo_53 : decode cX1_applyTo 53 = .ok (.iload 7, 2) := by decide +kernel
theorem dX1_applyTo_55 : decode cX1_applyTo 55 = .ok (.istore 8, 2) := by decide +kernel
theorem dX1_applyTo_57 : decode cX1_applyTo 57 = .ok (.iload 8, 2) := by decide +kernel
theorem dX1_applyTo_59 : decode cX1_applyTo 59 = .ok (.iconst (-1), 1) := by decide +kernel
theorem dX1_applyTo_60 : decode cX1_applyTo 60 = .ok (.if_icmp .eq 17, 3) := by decide +kernel
theorem dX1_applyTo_63 : decode cX1_applyTo 63 = .ok (.iload_n 2, 1) := by decide +kernel
theorem dX1_applyTo_64 : decode cX1_applyTo 64 = .ok (.iload 8, 2) := by decide +kernel
theorem dX1_applyTo_66 : decode cX1_applyTo 66 = .ok (.iconst 1, 1) := by decide +kernel
theorem dX1_applyTo_67 : decode cX1_applyTo 67 = .ok (.iadd, 1) := by decide +kernel
theorem dX1_applyTo_68 : decode cX1_applyTo 68 = .ok (.iload_n 3, 1) := by decide +kernel
theorem dX1_applyTo_69 : decode cX1_applyTo 69 = .ok (.imul, 1) := by decide +kernel
theorem dX1_applyTo_70 : decode cX1_applyTo 70 = .ok (.iadd, 1) := by decide +kernel
theorem dX1_applyTo_71 : decode cX1_applyTo 71 = .ok (.istore_n 2, 1) := by decide +kernel
theorem dX1_applyTo_72 : decode cX1_applyTo 72 = .ok (.iload_n 3, 1) := by decide +kernel
theorem dX1_applyTo_73 : decode cX1_applyTo 73 = .ok (.bipush 9, 2) := by decide +kernel
theorem dX1_applyTo_75 : decode cX1_applyTo 75 = .ok (.imul, 1) := by decide +kernel
theorem dX1_applyTo_76 : decode cX1_applyTo 76 = .ok (.istore_n 3, 1) := by decide +kernel
theorem dX1_applyTo_77 : decode cX1_applyTo 77 = .ok (.iload 7, 2) := by decide +kernel
theorem dX1_applyTo_79 : decode cX1_applyTo 79 = .ok (.istore 5, 2) := by decide +kernel
theorem dX1_applyTo_81 : decode cX1_applyTo 81 = .ok (.iload 4, 2) := by decide +kernel
theorem dX1_applyTo_83 : decode cX1_applyTo 83 = .ok (.bipush 9, 2) := by decide +kernel
theorem dX1_applyTo_85 : decode cX1_applyTo 85 = .ok (.idiv, 1) := by decide +kernel
theorem dX1_applyTo_86 : decode cX1_applyTo 86 = .ok (.istore 4, 2) := by decide +kernel
theorem dX1_applyTo_88 : decode cX1_applyTo 88 = .ok (.iinc 6 1, 3) := by decide +kernel
theorem dX1_applyTo_91 : decode cX1_applyTo 91 = .ok (.goto (-77), 3) := by decide +kernel
theorem dX1_applyTo_94 : decode cX1_applyTo 94 = .ok (.iload_n 2, 1) := by decide +kernel
theorem dX1_applyTo_95 : decode cX1_applyTo 95 = .ok (.ifCond .ne 7, 3) := by decide +kernel
theorem dX1_applyTo_98 : decode cX1_applyTo 98 = .ok (.iload_n 1, 1) := by decide +kernel
theorem dX1_applyTo_99 : decode cX1_applyTo 99 = .ok (.goto 4, 3) := by decide +kernel
theorem dX1_applyTo_102 : decode cX1_applyTo 102 = .ok (.iload_n 2, 1) := by decide +kernel
theorem dX1_applyTo_103 : decode cX1_applyTo 103 = .ok (.ireturn, 1) := by decide +kernel
theorem dX2_init_0 : decode cX2_init 0 = .ok (.aload_n 0, 1) := by decide +kernel
theorem dX2_init_1 : decode cX2_init 1 = .ok (.invokespecial 3, 3) := by decide +kernel
theorem dX2_init_4 : decode cX2_init 4 = .ok (.aload_n 0, 1) := by decide +kernel
theorem dX2_init_5 : decode cX2_init 5 = .ok (.bipush 9, 2) := by decide +kernel
theorem dX2_init_7 : decode cX2_init 7 = .ok (.newarray .int, 2) := by decide +kernel
theorem dX2_init_9 : decode cX2_init 9 = .ok (.putfield 9, 3) := by decide +kernel
theorem dX2_init_12 : decode cX2_init 12 = .ok (.return_, 1) := by decide +kernel
theorem dX2_countSteps_0 : decode cX2_countSteps 0 = .ok (.iconst 0, 1) := by decide +kernel
theorem dX2_countSteps_1 : decode cX2_countSteps 1 = .ok (.istore_n 3, 1) := by decide +kernel
theorem dX2_countSteps_2 : decode cX2_countSteps 2 = .ok (.iload_n 3, 1) := by decide +kernel
theorem dX2_countSteps_3 : decode cX2_countSteps 3 = .ok (.aload_n 0, 1) := by decide +kernel
theorem dX2_countSteps_4 : decode cX2_countSteps 4 = .ok (.getfield 9, 3) := by decide +kernel
theorem dX2_countSteps_7 : decode cX2_countSteps 7 = .ok (.arraylength, 1) := by decide +kernel
theorem dX2_countSteps_8 : decode cX2_countSteps 8 = .ok (.if_icmp .ge 16, 3) := by decide +kernel
theorem dX2_countSteps_11 : decode cX2_countSteps 11 = .ok (.aload_n 0, 1) := by decide +kernel
theorem dX2_countSteps_12 : decode cX2_countSteps 12 = .ok (.getfield 9, 3) := by decide +kernel
theorem dX2_countSteps_15 : decode cX2_countSteps 15 = .ok (.iload_n 3, 1) := by decide +kernel
theorem dX2_countSteps_16 : decode cX2_countSteps 16 = .ok (.iload_n 3, 1) := by decide +kernel
theorem dX2_countSteps_17 : decode cX2_countSteps 17 = .ok (.iastore, 1) := by decide +kernel
theorem dX2_countSteps_18 : decode cX2_countSteps 18 = .ok (.iinc 3 1, 3) := by decide +kernel
theorem dX2_countSteps_21 : decode cX2_countSteps 21 = .ok (.goto (-19), 3) := by decide +kernel
theorem dX2_countSteps_24 : decode cX2_countSteps 24 = .ok (.iload_n 1, 1) := by decide +kernel
theorem dX2_countSteps_25 : decode cX2_countSteps 25 = .ok (.istore_n 3, 1) := by decide +kernel
theorem dX2_countSteps_26 : decode cX2_countSteps 26 = .ok (.aload_n 0, 1) := by decide +kernel
theorem dX2_countSteps_27 : decode cX2_countSteps 27 = .ok (.getfield 9, 3) := by decide +kernel
theorem dX2_countSteps_30 : decode cX2_countSteps 30 = .ok (.iconst 0, 1) := by decide +kernel
theorem dX2_countSteps_31 : decode cX2_countSteps 31 = .ok (.iaload, 1) := by decide +kernel
theorem dX2_countSteps_32 : decode cX2_countSteps 32 = .ok (.istore 4, 2) := by decide +kernel
theorem dX2_countSteps_34 : decode cX2_countSteps 34 = .ok (.iconst 0, 1) := by decide +kernel
theorem dX2_countSteps_35 : decode cX2_countSteps 35 = .ok (.istore 5, 2) := by decide +kernel
theorem dX2_countSteps_37 : decode cX2_countSteps 37 = .ok (.iload 5, 2) := by decide +kernel
theorem dX2_countSteps_39 : decode cX2_countSteps 39 = .ok (.bipush 8, 2) := by decide +kernel
theorem dX2_countSteps_41 : decode cX2_countSteps 41 = .ok (.if_icmp .ge 29, 3) := by decide +kernel
theorem dX2_countSteps_44 : decode cX2_countSteps 44 = .ok (.iload_n 3, 1) := by decide +kernel
theorem dX2_countSteps_45 : decode cX2_countSteps 45 = .ok (.ifCond .le 25, 3) := by decide +kernel
theorem dX2_countSteps_48 : decode cX2_countSteps 48 = .ok (.aload_n 0, 1) := by decide +kernel
theorem dX2_countSteps_49 : decode cX2_countSteps 49 = .ok (.iload_n 3, 1) := by decide +kernel
theorem dX2_countSteps_50 : decode cX2_countSteps 50 = .ok (.bipush 9, 2) := by decide +kernel
theorem dX2_countSteps_52 : decode cX2_countSteps 52 = .ok (.irem, 1) := by decide +kernel
theorem dX2_countSteps_53 : decode cX2_countSteps 53 = .ok (.iload_n 2, 1) := by decide +kernel
theorem dX2_countSteps_54 : decode cX2_countSteps 54 = .ok (.invokevirtual 15, 3) := by decide +kernel
theorem dX2_countSteps_57 : decode cX2_countSteps 57 = .ok (.istore 4, 2) := by decide +kernel
theorem dX2_countSteps_59 : decode cX2_countSteps 59 = .ok (.iload_n 3, 1) := by decide +kernel
theorem dX2_countSteps_60 : decode cX2_countSteps 60 = .ok (.bipush 9, 2) := by decide +kernel
theorem dX2_countSteps_62 : decode cX2_countSteps 62 = .ok (.idiv, 1) := by decide +kernel
theorem dX2_countSteps_63 : decode cX2_countSteps 63 = .ok (.istore_n 3, 1) := by decide +kernel
theorem dX2_countSteps_64 : decode cX2_countSteps 64 = .ok (.iinc 5 1, 3) := by decide +kernel
theorem dX2_countSteps_67 : decode cX2_countSteps 67 = .ok (.goto (-30), 3) := by decide +kernel
theorem dX2_countSteps_70 : decode cX2_countSteps 70 = .ok (.iload 4, 2) := by decide +kernel
theorem dX2_countSteps_72 : decode cX2_countSteps 72 = .ok (.ireturn, 1) := by decide +kernel
theorem dX2_goThrough_0 : decode cX2_goThrough 0 = .ok (.aload_n 0, 1) := by decide +kernel
theorem dX2_goThrough_1 : decode cX2_goThrough 1 = .ok (.getfield 9, 3) := by decide +kernel
theorem dX2_goThrough_4 : decode cX2_goThrough 4 = .ok (.iconst 0, 1) := by decide +kernel
theorem dX2_goThrough_5 : decode cX2_goThrough 5 = .ok (.iaload, 1) := by decide +kernel
theorem dX2_goThrough_6 : decode cX2_goThrough 6 = .ok (.istore_n 3, 1) := by decide +kernel
theorem dX2_goThrough_7 : decode cX2_goThrough 7 = .ok (.aload_n 0, 1) := by decide +kernel
theorem dX2_goThrough_8 : decode cX2_goThrough 8 = .ok (.getfield 9, 3) := by decide +kernel
theorem dX2_goThrough_11 : decode cX2_goThrough 11 = .ok (.iconst 0, 1) := by decide +kernel
theorem dX2_goThrough_12 : decode cX2_goThrough 12 = .ok (.iload_n 3, 1) := by decide +kernel
theorem dX2_goThrough_13 : decode cX2_goThrough 13 = .ok (.iconst 1, 1) := by decide +kernel
theorem dX2_goThrough_14 : decode cX2_goThrough 14 = .ok (.iadd, 1) := by decide +kernel
theorem dX2_goThrough_15 : decode cX2_goThrough 15 = .ok (.iastore, 1) := by decide +kernel
theorem dX2_goThrough_16 : decode cX2_goThrough 16 = .ok (.aload_n 0, 1) := by decide +kernel
theorem dX2_goThrough_17 : decode cX2_goThrough 17 = .ok (.getfield 9, 3) := by decide +kernel
theorem dX2_goThrough_20 : decode cX2_goThrough 20 = .ok (.iconst 0, 1) := by decide +kernel
theorem dX2_goThrough_21 : decode cX2_goThrough 21 = .ok (.iaload, 1) := by decide +kernel
theorem dX2_goThrough_22 : decode cX2_goThrough 22 = .ok (.istore 4, 2) := by decide +kernel
theorem dX2_goThrough_24 : decode cX2_goThrough 24 = .ok (.iload_n 2, 1) := by decide +kernel
theorem dX2_goThrough_25 : decode cX2_goThrough 25 = .ok (.istore 5, 2) := by decide +kernel
theorem dX2_goThrough_27 : decode cX2_goThrough 27 = .ok (.iconst 1, 1) := by decide +kernel
theorem dX2_goThrough_28 : decode cX2_goThrough 28 = .ok (.istore 6, 2) := by decide +kernel
theorem dX2_goThrough_30 : decode cX2_goThrough 30 = .ok (.iload 6, 2) := by decide +kernel
theorem dX2_goThrough_32 : decode cX2_goThrough 32 = .ok (.aload_n 0, 1) := by decide +kernel
theorem dX2_goThrough_33 : decode cX2_goThrough 33 = .ok (.getfield 9, 3) := by decide +kernel
theorem dX2_goThrough_36 : decode cX2_goThrough 36 = .ok (.arraylength, 1) := by decide +kernel
theorem dX2_goThrough_37 : decode cX2_goThrough 37 = .ok (.if_icmp .ge 78, 3) := by decide +kernel
theorem dX2_goThrough_40 : decode cX2_goThrough 40 = .ok (.iload 5, 2) := by decide +kernel
theorem dX2_goThrough_42 : decode cX2_goThrough 42 = .ok (.ifCond .le 73, 3) := by decide +kernel
theorem dX2_goThrough_45 : decode cX2_goThrough 45 = .ok (.iload 5, 2) := by decide +kernel
theorem dX2_goThrough_47 : decode cX2_goThrough 47 = .ok (.bipush 9, 2) := by decide +kernel
theorem dX2_goThrough_49 : decode cX2_goThrough 49 = .ok (.irem, 1) := by decide +kernel
theorem dX2_goThrough_50 : decode cX2_goThrough 50 = .ok (.iload_n 1, 1) := by decide +kernel
theorem dX2_goThrough_51 : decode cX2_goThrough 51 = .ok (.if_icmp .ne 7, 3) := by decide +kernel
theorem dX2_goThrough_54 : decode cX2_goThrough 54 = .ok (.iload_n 3, 1) := by decide +kernel
theorem dX2_goThrough_55 : decode cX2_goThrough 55 = .ok (.goto 6, 3) := by decide +kernel
theorem dX2_goThrough_58 : decode cX2_goThrough 58 = .ok (.iload_n 3, 1) := by decide +kernel
theorem dX2_goThrough_59 : decode cX2_goThrough 59 = .ok (.iconst 1, 1) := by decide +kernel
theorem dX2_goThrough_60 : decode cX2_goThrough 60 = .ok (.iadd, 1) := by decide +kernel
theorem dX2_goThrough_61 : decode cX2_goThrough 61 = .ok (.istore 7, 2) := by decide +kernel
theorem dX2_goThrough_63 : decode cX2_goThrough 63 = .ok (.aload_n 0, 1) := by decide +kernel
theorem dX2_goThrough_64 : decode cX2_goThrough 64 = .ok (.getfield 9, 3) := by decide +kernel
theorem dX2_goThrough_67 : decode cX2_goThrough 67 = .ok (.iload 6, 2) := by decide +kernel
theorem dX2_goThrough_69 : decode cX2_goThrough 69 = .ok (.iaload, 1) := by decide +kernel
theorem dX2_goThrough_70 : decode cX2_goThrough 70 = .ok (.istore_n 3, 1) := by decide +kernel
theorem dX2_goThrough_71 : decode cX2_goThrough 71 = .ok (.iload 7, 2) := by decide +kernel
theorem dX2_goThrough_73 : decode cX2_goThrough 73 = .ok (.iload_n 3, 1) := by decide +kernel
theorem dX2_goThrough_74 : decode cX2_goThrough 74 = .ok (.aload_n 0, 1) := by decide +kernel
theorem dX2_goThrough_75 : decode cX2_goThrough 75 = .ok (.getfield 9, 3) := by decide +kernel
theorem dX2_goThrough_78 : decode cX2_goThrough 78 = .ok (.iload 6, 2) := by decide +kernel
theorem dX2_goThrough_80 : decode cX2_goThrough 80 = .ok (.iconst 1, 1) := by decide +kernel
theorem dX2_goThrough_81 : decode cX2_goThrough 81 = .ok (.isub, 1) := by decide +kernel
theorem dX2_goThrough_82 : decode cX2_goThrough 82 = .ok (.iaload, 1) := by decide +kernel
theorem dX2_goThrough_83 : decode cX2_goThrough 83 = .ok (.invokestatic 19, 3) := by decide +kernel
theorem dX2_goThrough_86 : decode cX2_goThrough 86 = .ok (.iconst 1, 1) := by decide +kernel
theorem dX2_goThrough_87 : decode cX2_goThrough 87 = .ok (.iadd, 1) := by decide +kernel
theorem dX2_goThrough_88 : decode cX2_goThrough 88 = .ok (.invokestatic 19, 3) := by decide +kernel
theorem dX2_goThrough_91 : decode cX2_goThrough 91 = .ok (.istore 4, 2) := by decide +kernel
theorem dX2_goThrough_93 : decode cX2_goThrough 93 = .ok (.aload_n 0, 1) := by decide +kernel
theorem dX2_goThrough_94 : decode cX2_goThrough 94 = .ok (.getfield 9, 3) := by decide +kernel
theorem dX2_goThrough_97 : decode cX2_goThrough 97 = .ok (.iload 6, 2) := by decide +kernel
theorem dX2_goThrough_99 : decode cX2_goThrough 99 = .ok (.iload 4, 2) := by decide +kernel
theorem dX2_goThrough_101 : decode cX2_goThrough 101 = .ok (.iastore, 1) := by decide +kernel
theorem dX2_goThrough_102 : decode cX2_goThrough 102 = .ok (.iload 5, 2) := by decide +kernel
theorem dX2_goThrough_104 : decode cX2_goThrough 104 = .ok (.bipush 9, 2) := by decide +kernel
theorem dX2_goThrough_106 : decode cX2_goThrough 106 = .ok (.idiv, 1) := by decide +kernel
theorem dX2_goThrough_107 : decode cX2_goThrough 107 = .ok (.istore 5, 2) := by decide +kernel
theorem dX2_goThrough_109 : decode cX2_goThrough 109 = .ok (.iinc 6 1, 3) := by decide +kernel
theorem dX2_goThrough_112 : decode cX2_goThrough 112 = .ok (.goto (-82), 3) := by decide +kernel
theorem dX2_goThrough_115 : decode cX2_goThrough 115 = .ok (.iload 4, 2) := by decide +kernel
theorem dX2_goThrough_117 : decode cX2_goThrough 117 = .ok (.ireturn, 1) := by decide +kernel
theorem dX3_init_0 : decode cX3_init 0 = .ok (.aload_n 0, 1) := by decide +kernel
theorem dX3_init_1 : decode cX3_init 1 = .ok (.invokespecial 1, 3) := by decide +kernel
theorem dX3_init_4 : decode cX3_init 4 = .ok (.aload_n 0, 1) := by decide +kernel
theorem dX3_init_5 : decode cX3_init 5 = .ok (.new 7, 3) := by decide +kernel
theorem dX3_init_8 : decode cX3_init 8 = .ok (.dup, 1) := by decide +kernel
theorem dX3_init_9 : decode cX3_init 9 = .ok (.invokespecial 9, 3) := by decide +kernel
theorem dX3_init_12 : decode cX3_init 12 = .ok (.putfield 10, 3) := by decide +kernel
theorem dX3_init_15 : decode cX3_init 15 = .ok (.aload_n 0, 1) := by decide +kernel
theorem dX3_init_16 : decode cX3_init 16 = .ok (.new 7, 3) := by decide +kernel
theorem dX3_init_19 : decode cX3_init 19 = .ok (.dup, 1) := by decide +kernel
theorem dX3_init_20 : decode cX3_init 20 = .ok (.invokespecial 9, 3) := by decide +kernel
theorem dX3_init_23 : decode cX3_init 23 = .ok (.putfield 16, 3) := by decide +kernel
theorem dX3_init_26 : decode cX3_init 26 = .ok (.aload_n 0, 1) := by decide +kernel
theorem dX3_init_27 : decode cX3_init 27 = .ok (.new 7, 3) := by decide +kernel
theorem dX3_init_30 : decode cX3_init 30 = .ok (.dup, 1) := by decide +kernel
theorem dX3_init_31 : decode cX3_init 31 = .ok (.invokespecial 9, 3) := by decide +kernel
theorem dX3_init_34 : decode cX3_init 34 = .ok (.putfield 19, 3) := by decide +kernel
theorem dX3_init_37 : decode cX3_init 37 = .ok (.aload_n 0, 1) := by decide +kernel
theorem dX3_init_38 : decode cX3_init 38 = .ok (.iconst 4, 1) := by decide +kernel
theorem dX3_init_39 : decode cX3_init 39 = .ok (.newarray .int, 2) := by decide +kernel
theorem dX3_init_41 : decode cX3_init 41 = .ok (.putfield 22, 3) := by decide +kernel
theorem dX3_init_44 : decode cX3_init 44 = .ok (.aload_n 0, 1) := by decide +kernel
theorem dX3_init_45 : decode cX3_init 45 = .ok (.iconst 4, 1) := by decide +kernel
theorem dX3_init_46 : decode cX3_init 46 = .ok (.newarray .int, 2) := by decide +kernel
theorem dX3_init_48 : decode cX3_init 48 = .ok (.putfield 26, 3) := by decide +kernel
theorem dX3_init_51 : decode cX3_init 51 = .ok (.aload_n 0, 1) := by decide +kernel
theorem dX3_init_52 : decode cX3_init 52 = .ok (.iconst 3, 1) := by decide +kernel
theorem dX3_init_53 : decode cX3_init 53 = .ok (.newarray .long, 2) := by decide +kernel
theorem dX3_init_55 : decode cX3_init 55 = .ok (.putfield 29, 3) := by decide +kernel
theorem dX3_init_58 : decode cX3_init 58 = .ok (.aload_n 0, 1) := by decide +kernel
theorem dX3_init_59 : decode cX3_init 59 = .ok (.new 33, 3) := by decide +kernel
theorem dX3_init_62 : decode cX3_init 62 = .ok (.dup, 1) := by decide +kernel
theorem dX3_init_63 : decode cX3_init 63 = .ok (.invokespecial 35, 3) := by decide +kernel
theorem dX3_init_66 : decode cX3_init 66 = .ok (.putfield 36, 3) := by decide +kernel
theorem dX3_init_69 : decode cX3_init 69 = .ok (.aload_n 0, 1) := by decide +kernel
theorem dX3_init_70 : decode cX3_init 70 = .ok (.lconst 0, 1) := by decide +kernel
theorem dX3_init_71 : decode cX3_init 71 = .ok (.putfield 40, 3) := by decide +kernel
theorem dX3_init_74 : decode cX3_init 74 = .ok (.aload_n 0, 1) := by decide +kernel
theorem dX3_init_75 : decode cX3_init 75 = .ok (.iconst 0, 1) := by decide +kernel
theorem dX3_init_76 : decode cX3_init 76 = .ok (.putfield 44, 3) := by decide +kernel
theorem dX3_init_79 : decode cX3_init 79 = .ok (.aload_n 0, 1) := by decide +kernel
theorem dX3_init_80 : decode cX3_init 80 = .ok (.iconst 0, 1) := by decide +kernel
theorem dX3_init_81 : decode cX3_init 81 = .ok (.putfield 48, 3) := by decide +kernel
theorem dX3_init_84 : decode cX3_init 84 = .ok (.aload_n 0, 1) := by decide +kernel
theorem dX3_init_85 : decode cX3_init 85 = .ok (.getfield 22, 3) := by decide +kernel
theorem dX3_init_88 : decode cX3_init 88 = .ok (.iconst (-1), 1) := by decide +kernel
theorem dX3_init_89 : decode cX3_init 89 = .ok (.invokestatic 51, 3) := by decide +kernel
theorem dX3_init_92 : decode cX3_init 92 = .ok (.return_, 1) := by decide +kernel
theorem dX3_sound_0 : decode cX3_sound 0 = .ok (.iload_n 1, 1) := by decide +kernel
theorem dX3_sound_1 : decode cX3_sound 1 = .ok (.bipush 8, 2) := by decide +kernel
theorem dX3_sound_3 : decode cX3_sound 3 = .ok (.invokestatic 57, 3) := by decide +kernel
theorem dX3_sound_6 : decode cX3_sound 6 = .ok (.ifCond .eq 13, 3) := by decide +kernel
theorem dX3_sound_9 : decode cX3_sound 9 = .ok (.new 61, 3) := by decide +kernel
theorem dX3_sound_12 : decode cX3_sound 12 = .ok (.dup, 1) := by decide +kernel
theorem dX3_sound_13 : decode cX3_sound 13 = .ok (.ldc 63, 2) := by decide +kernel
theorem dX3_sound_15 : decode cX3_sound 15 = .ok (.invokespecial 65, 3) := by decide +kernel
theorem dX3_sound_18 : decode cX3_sound 18 = .ok (.athrow, 1) := by decide +kernel
theorem dX3_sound_19 : decode cX3_sound 19 = .ok (.aload_n 0, 1) := by decide +kernel
theorem dX3_sound_20 : decode cX3_sound 20 = .ok (.getfield 48, 3) := by decide +kernel
theorem dX3_sound_23 : decode cX3_sound 23 = .ok (.bipush 8, 2) := by decide +kernel
theorem dX3_sound_25 : decode cX3_sound 25 = .ok (.if_icmp .lt 13, 3) := by decide +kernel
theorem dX3_sound_28 : decode cX3_sound 28 = .ok (.new 68, 3) := by decide +kernel
theorem dX3_sound_31 : decode cX3_sound 31 = .ok (.dup, 1) := by decide +kernel
theorem dX3_sound_32 : decode cX3_sound 32 = .ok (.ldc 70, 2) := by decide +kernel
theorem dX3_sound_34 : decode cX3_sound 34 = .ok (.invokespecial 72, 3) := by decide +kernel
theorem dX3_sound_37 : decode cX3_sound 37 = .ok (.athrow, 1) := by decide +kernel
theorem dX3_sound_38 : decode cX3_sound 38 = .ok (.aload_n 0, 1) := by decide +kernel
theorem dX3_sound_39 : decode cX3_sound 39 = .ok (.aload_n 0, 1) := by decide +kernel
theorem dX3_sound_40 : decode cX3_sound 40 = .ok (.getfield 44, 3) := by decide +kernel
theorem dX3_sound_43 : decode cX3_sound 43 = .ok (.bipush 9, 2) := by decide +kernel
theorem dX3_sound_45 : decode cX3_sound 45 = .ok (.imul, 1) := by decide +kernel
theorem dX3_sound_46 : decode cX3_sound 46 = .ok (.iload_n 1, 1) := by decide +kernel
theorem dX3_sound_47 : decode cX3_sound 47 = .ok (.iadd, 1) := by decide +kernel
theorem dX3_sound_48 : decode cX3_sound 48 = .ok (.iconst 1, 1) := by decide +kernel
theorem dX3_sound_49 : decode cX3_sound 49 = .ok (.iadd, 1) := by decide +kernel
theorem dX3_sound_50 : decode cX3_sound 50 = .ok (.putfield 44, 3) := by decide +kernel
theorem dX3_sound_53 : decode cX3_sound 53 = .ok (.aload_n 0, 1) := by decide +kernel
theorem dX3_sound_54 : decode cX3_sound 54 = .ok (.dup, 1) := by decide +kernel
theorem dX3_sound_55 : decode cX3_sound 55 = .ok (.getfield 48, 3) := by decide +kernel
theorem dX3_sound_58 : decode cX3_sound 58 = .ok (.iconst 1, 1) := by decide +kernel
theorem dX3_sound_59 : decode cX3_sound 59 = .ok (.iadd, 1) := by decide +kernel
theorem dX3_sound_60 : decode cX3_sound 60 = .ok (.putfield 48, 3) := by decide +kernel
theorem dX3_sound_63 : decode cX3_sound 63 = .ok (.aload_n 0, 1) := by decide +kernel
theorem dX3_sound_64 : decode cX3_sound 64 = .ok (.getfield 48, 3) := by decide +kernel
theorem dX3_sound_67 : decode cX3_sound 67 = .ok (.ireturn, 1) := by decide +kernel
theorem dX3_interview_0 : decode cX3_interview 0 = .ok (.iload_n 1, 1) := by decide +kernel
theorem dX3_interview_1 : decode cX3_interview 1 = .ok (.bipush 8, 2) := by decide +kernel
theorem dX3_interview_3 : decode cX3_interview 3 = .ok (.invokestatic 57, 3) := by decide +kernel
theorem dX3_interview_6 : decode cX3_interview 6 = .ok (.ifCond .ne 21, 3) := by decide +kernel
theorem dX3_interview_9 : decode cX3_interview 9 = .ok (.iload_n 2, 1) := by decide +kernel
theorem dX3_interview_10 : decode cX3_interview 10 = .ok (.bipush 10, 2) := by decide +kernel
theorem dX3_interview_12 : decode cX3_interview 12 = .ok (.invokestatic 57, 3) := by decide +kernel
theorem dX3_interview_15 : decode cX3_interview 15 = .ok (.ifCond .ne 12, 3) := by decide +kernel
theorem dX3_interview_18 : decode cX3_interview 18 = .ok (.iload 4, 2) := by decide +kernel
theorem dX3_interview_20 : decode cX3_interview 20 = .ok (.iconst 4, 1) := by decide +kernel
theorem dX3_interview_21 : decode cX3_interview 21 = .ok (.invokestatic 57, 3) := by decide +kernel
theorem dX3_interview_24 : decode cX3_interview 24 = .ok (.ifCond .eq 13, 3) := by decide +kernel
theorem dX3_interview_27 : decode cX3_interview 27 = .ok (.new 61, 3) := by decide +kernel
theorem dX3_interview_30 : decode cX3_interview 30 = .ok (.dup, 1) := by decide +kernel
theorem dX3_interview_31 : decode cX3_interview 31 = .ok (.ldc 73, 2) := by decide +kernel
theorem dX3_interview_33 : decode cX3_interview 33 = .ok (.invokespecial 65, 3) := by decide +kernel
theorem dX3_interview_36 : decode cX3_interview 36 = .ok (.athrow, 1) := by decide +kernel
theorem dX3_interview_37 : decode cX3_interview 37 = .ok (.iload_n 3, 1) := by decide +kernel
theorem dX3_interview_38 : decode cX3_interview 38 = .ok (.sipush 301, 3) := by decide +kernel
theorem dX3_interview_41 : decode cX3_interview 41 = .ok (.invokestatic 57, 3) := by decide +kernel
theorem dX3_interview_44 : decode cX3_interview 44 = .ok (.ifCond .eq 13, 3) := by decide +kernel
theorem dX3_interview_47 : decode cX3_interview 47 = .ok (.new 75, 3) := by decide +kernel
theorem dX3_interview_50 : decode cX3_interview 50 = .ok (.dup, 1) := by decide +kernel
theorem dX3_interview_51 : decode cX3_interview 51 = .ok (.ldc 77, 2) := by decide +kernel
theorem dX3_interview_53 : decode cX3_interview 53 = .ok (.invokespecial 79, 3) := by decide +kernel
theorem dX3_interview_56 : decode cX3_interview 56 = .ok (.athrow, 1) := by decide +kernel
theorem dX3_interview_57 : decode cX3_interview 57 = .ok (.aload_n 0, 1) := by decide +kernel
theorem dX3_interview_58 : decode cX3_interview 58 = .ok (.getfield 10, 3) := by decide +kernel
theorem dX3_interview_61 : decode cX3_interview 61 = .ok (.invokevirtual 80, 3) := by decide +kernel
theorem dX3_interview_64 : decode cX3_interview 64 = .ok (.istore 5, 2) := by decide +kernel
theorem dX3_interview_66 : decode cX3_interview 66 = .ok (.aload_n 0, 1) := by decide +kernel
theorem dX3_interview_67 : decode cX3_interview 67 = .ok (.getfield 48, 3) := by decide +kernel
theorem dX3_interview_70 : decode cX3_interview 70 = .ok (.ifCond .eq 10, 3) := by decide +kernel
theorem dX3_interview_73 : decode cX3_interview 73 = .ok (.iload 5, 2) := by decide +kernel
theorem dX3_interview_75 : decode cX3_interview 75 = .ok (.bipush 40, 2) := by decide +kernel
theorem dX3_interview_77 : decode cX3_interview 77 = .ok (.if_icmp .lt 13, 3) := by decide +kernel
theorem dX3_interview_80 : decode cX3_interview 80 = .ok (.new 68, 3) := by decide +kernel
theorem dX3_interview_83 : decode cX3_interview 83 = .ok (.dup, 1) := by decide +kernel
theorem dX3_interview_84 : decode cX3_interview 84 = .ok (.ldc 84, 2) := by decide +kernel
theorem dX3_interview_86 : decode cX3_interview 86 = .ok (.invokespecial 72, 3) := by decide +kernel
theorem dX3_interview_89 : decode cX3_interview 89 = .ok (.athrow, 1) := by decide +kernel
theorem dX3_interview_90 : decode cX3_interview 90 = .ok (.lconst 1, 1) := by decide +kernel
theorem dX3_interview_91 : decode cX3_interview 91 = .ok (.iload 5, 2) := by decide +kernel
theorem dX3_interview_93 : decode cX3_interview 93 = .ok (.lshl, 1) := by decide +kernel
theorem dX3_interview_94 : decode cX3_interview 94 = .ok (.lstore 6, 2) := by decide +kernel
theorem dX3_interview_96 : decode cX3_interview 96 = .ok (.aload_n 0, 1) := by decide +kernel
theorem dX3_interview_97 : decode cX3_interview 97 = .ok (.getfield 10, 3) := by decide +kernel
theorem dX3_interview_100 : decode cX3_interview 100 = .ok (.new 86, 3) := by decide +kernel
theorem dX3_interview_103 : decode cX3_interview 103 = .ok (.dup, 1) := by decide +kernel
theorem dX3_interview_104 : decode cX3_interview 104 = .ok (.lload 6, 2) := by decide +kernel
theorem dX3_interview_106 : decode cX3_interview 106 = .ok (.iload_n 1, 1) := by decide +kernel
theorem dX3_interview_107 : decode cX3_interview 107 = .ok (.iload_n 2, 1) := by decide +kernel
theorem dX3_interview_108 : decode cX3_interview 108 = .ok (.iload_n 3, 1) := by decide +kernel
theorem dX3_interview_109 : decode cX3_interview 109 = .ok (.iload 4, 2) := by decide +kernel
theorem dX3_interview_111 : decode cX3_interview 111 = .ok (.aload_n 0, 1) := by decide +kernel
theorem dX3_interview_112 : decode cX3_interview 112 = .ok (.invokevirtual 88, 3) := by decide +kernel
theorem dX3_interview_115 : decode cX3_interview 115 = .ok (.invokespecial 91, 3) := by decide +kernel
theorem dX3_interview_118 : decode cX3_interview 118 = .ok (.invokevirtual 94, 3) := by decide +kernel
theorem dX3_interview_121 : decode cX3_interview 121 = .ok (.pop, 1) := by decide +kernel
theorem dX3_interview_122 : decode cX3_interview 122 = .ok (.aload_n 0, 1) := by decide +kernel
theorem dX3_interview_123 : decode cX3_interview 123 = .ok (.dup, 1) := by decide +kernel
theorem dX3_interview_124 : decode cX3_interview 124 = .ok (.getfield 40, 3) := by decide +kernel
theorem dX3_interview_127 : decode cX3_interview 127 = .ok (.lload 6, 2) := by decide +kernel
theorem dX3_interview_129 : decode cX3_interview 129 = .ok (.lor, 1) := by decide +kernel
theorem dX3_interview_130 : decode cX3_interview 130 = .ok (.putfield 40, 3) := by decide +kernel
theorem dX3_interview_133 : decode cX3_interview 133 = .ok (.aload_n 0, 1) := by decide +kernel
theorem dX3_interview_134 : decode cX3_interview 134 = .ok (.getfield 26, 3) := by decide +kernel
theorem dX3_interview_137 : decode cX3_interview 137 = .ok (.iload 4, 2) := by decide +kernel
theorem dX3_interview_139 : decode cX3_interview 139 = .ok (.aload_n 0, 1) := by decide +kernel
theorem dX3_interview_140 : decode cX3_interview 140 = .ok (.iload 4, 2) := by decide +kernel
theorem dX3_interview_142 : decode cX3_interview 142 = .ok (.invokevirtual 98, 3) := by decide +kernel
theorem dX3_interview_145 : decode cX3_interview 145 = .ok (.iastore, 1) := by decide +kernel
theorem dX3_interview_146 : decode cX3_interview 146 = .ok (.iload 5, 2) := by decide +kernel
theorem dX3_interview_148 : decode cX3_interview 148 = .ok (.ireturn, 1) := by decide +kernel
theorem dX3_setRoot_0 : decode cX3_setRoot 0 = .ok (.iload_n 1, 1) := by decide +kernel
theorem dX3_setRoot_1 : decode cX3_setRoot 1 = .ok (.iconst 4, 1) := by decide +kernel
theorem dX3_setRoot_2 : decode cX3_setRoot 2 = .ok (.invokestatic 57, 3) := by decide +kernel
theorem dX3_setRoot_5 : decode cX3_setRoot 5 = .ok (.ifCond .eq 13, 3) := by decide +kernel
theorem dX3_setRoot_8 : decode cX3_setRoot 8 = .ok (.new 61, 3) := by decide +kernel
theorem dX3_setRoot_11 : decode cX3_setRoot 11 = .ok (.dup, 1) := by decide +kernel
theorem dX3_setRoot_12 : decode cX3_setRoot 12 = .ok (.ldc 102, 2) := by decide +kernel
theorem dX3_setRoot_14 : decode cX3_setRoot 14 = .ok (.invokespecial 65, 3) := by decide +kernel
theorem dX3_setRoot_17 : decode cX3_setRoot 17 = .ok (.athrow, 1) := by decide +kernel
theorem dX3_setRoot_18 : decode cX3_setRoot 18 = .ok (.aload_n 0, 1) := by decide +kernel
theorem dX3_setRoot_19 : decode cX3_setRoot 19 = .ok (.getfield 48, 3) := by decide +kernel
theorem dX3_setRoot_22 : decode cX3_setRoot 22 = .ok (.ifCond .ne 13, 3) := by decide +kernel
theorem dX3_setRoot_25 : decode cX3_setRoot 25 = .ok (.new 68, 3) := by decide +kernel
theorem dX3_setRoot_28 : decode cX3_setRoot 28 = .ok (.dup, 1) := by decide +kernel
theorem dX3_setRoot_29 : decode cX3_setRoot 29 = .ok (.ldc 104, 2) := by decide +kernel
theorem dX3_setRoot_31 : decode cX3_setRoot 31 = .ok (.invokespecial 72, 3) := by decide +kernel
theorem dX3_setRoot_34 : decode cX3_setRoot 34 = .ok (.athrow, 1) := by decide +kernel
theorem dX3_setRoot_35 : decode cX3_setRoot 35 = .ok (.aload_n 0, 1) := by decide +kernel
theorem dX3_setRoot_36 : decode cX3_setRoot 36 = .ok (.getfield 22, 3) := by decide +kernel
theorem dX3_setRoot_39 : decode cX3_setRoot 39 = .ok (.iload_n 1, 1) := by decide +kernel
theorem dX3_setRoot_40 : decode cX3_setRoot 40 = .ok (.iaload, 1) := by decide +kernel
theorem dX3_setRoot_41 : decode cX3_setRoot 41 = .ok (.istore_n 2, 1) := by decide +kernel
theorem dX3_setRoot_42 : decode cX3_setRoot 42 = .ok (.aload_n 0, 1) := by decide +kernel
theorem dX3_setRoot_43 : decode cX3_setRoot 43 = .ok (.getfield 22, 3) := by decide +kernel
theorem dX3_setRoot_46 : decode cX3_setRoot 46 = .ok (.iload_n 1, 1) := by decide +kernel
theorem dX3_setRoot_47 : decode cX3_setRoot 47 = .ok (.aload_n 0, 1) := by decide +kernel
theorem dX3_setRoot_48 : decode cX3_setRoot 48 = .ok (.invokevirtual 88, 3) := by decide +kernel
theorem dX3_setRoot_51 : decode cX3_setRoot 51 = .ok (.iastore, 1) := by decide +kernel
theorem dX3_setRoot_52 : decode cX3_setRoot 52 = .ok (.iload_n 2, 1) := by decide +kernel
theorem dX3_setRoot_53 : decode cX3_setRoot 53 = .ok (.ireturn, 1) := by decide +kernel
theorem dX3_form_0 : decode cX3_form 0 = .ok (.iload_n 1, 1) := by decide +kernel
theorem dX3_form_1 : decode cX3_form 1 = .ok (.aload_n 0, 1) := by decide +kernel
theorem dX3_form_2 : decode cX3_form 2 = .ok (.getfield 10, 3) := by decide +kernel
theorem dX3_form_5 : decode cX3_form 5 = .ok (.invokevirtual 80, 3) := by decide +kernel
theorem dX3_form_8 : decode cX3_form 8 = .ok (.invokestatic 57, 3) := by decide +kernel
theorem dX3_form_11 : decode cX3_form 11 = .ok (.ifCond .eq 13, 3) := by decide +kernel
theorem dX3_form_14 : decode cX3_form 14 = .ok (.new 61, 3) := by decide +kernel
theorem dX3_form_17 : decode cX3_form 17 = .ok (.dup, 1) := by decide +kernel
theorem dX3_form_18 : decode cX3_form 18 = .ok (.ldc 106, 2) := by decide +kernel
theorem dX3_form_20 : decode cX3_form 20 = .ok (.invokespecial 65, 3) := by decide +kernel
theorem dX3_form_23 : decode cX3_form 23 = .ok (.athrow, 1) := by decide +kernel
theorem dX3_form_24 : decode cX3_form 24 = .ok (.aload_n 0, 1) := by decide +kernel
theorem dX3_form_25 : decode cX3_form 25 = .ok (.aload_n 0, 1) := by decide +kernel
theorem dX3_form_26 : decode cX3_form 26 = .ok (.getfield 10, 3) := by decide +kernel
theorem dX3_form_29 : decode cX3_form 29 = .ok (.iload_n 1, 1) := by decide +kernel
theorem dX3_form_30 : decode cX3_form 30 = .ok (.invokevirtual 108, 3) := by decide +kernel
theorem dX3_form_33 : decode cX3_form 33 = .ok (.checkcast 86, 3) := by decide +kernel
theorem dX3_form_36 : decode cX3_form 36 = .ok (.invokevirtual 112, 3) := by decide +kernel
theorem dX3_form_39 : decode cX3_form 39 = .ok (.ireturn, 1) := by decide +kernel
theorem dX3_rule_0 : decode cX3_rule 0 = .ok (.iload_n 1, 1) := by decide +kernel
theorem dX3_rule_1 : decode cX3_rule 1 = .ok (.bipush 8, 2) := by decide +kernel
theorem dX3_rule_3 : decode cX3_rule 3 = .ok (.invokestatic 57, 3) := by decide +kernel
theorem dX3_rule_6 : decode cX3_rule 6 = .ok (.ifCond .ne 23, 3) := by decide +kernel
theorem dX3_rule_9 : decode cX3_rule 9 = .ok (.iload 4, 2) := by decide +kernel
theorem dX3_rule_11 : decode cX3_rule 11 = .ok (.bipush 10, 2) := by decide +kernel
theorem dX3_rule_13 : decode cX3_rule 13 = .ok (.invokestatic 57, 3) := by decide +kernel
theorem dX3_rule_16 : decode cX3_rule 16 = .ok (.ifCond .ne 13, 3) := by decide +kernel
theorem dX3_rule_19 : decode cX3_rule 19 = .ok (.iload 5, 2) := by decide +kernel
theorem dX3_rule_21 : decode cX3_rule 21 = .ok (.bipush 10, 2) := by decide +kernel
theorem dX3_rule_23 : decode cX3_rule 23 = .ok (.invokestatic 57, 3) := by decide +kernel
theorem dX3_rule_26 : decode cX3_rule 26 = .ok (.ifCond .eq 13, 3) := by decide +kernel
theorem dX3_rule_29 : decode cX3_rule 29 = .ok (.new 61, 3) := by decide +kernel
theorem dX3_rule_32 : decode cX3_rule 32 = .ok (.dup, 1) := by decide +kernel
theorem dX3_rule_33 : decode cX3_rule 33 = .ok (.ldc 116, 2) := by decide +kernel
theorem dX3_rule_35 : decode cX3_rule 35 = .ok (.invokespecial 65, 3) := by decide +kernel
theorem dX3_rule_38 : decode cX3_rule 38 = .ok (.athrow, 1) := by decide +kernel
theorem dX3_rule_39 : decode cX3_rule 39 = .ok (.iload_n 2, 1) := by decide +kernel
theorem dX3_rule_40 : decode cX3_rule 40 = .ok (.iload_n 1, 1) := by decide +kernel
theorem dX3_rule_41 : decode cX3_rule 41 = .ok (.if_icmp .eq 24, 3) := by decide +kernel
theorem dX3_rule_44 : decode cX3_rule 44 = .ok (.iload_n 2, 1) := by decide +kernel
theorem dX3_rule_45 : decode cX3_rule 45 = .ok (.iconst (-1), 1) := by decide +kernel
theorem dX3_rule_46 : decode cX3_rule 46 = .ok (.if_icmp .eq 12, 3) := by decide +kernel
theorem dX3_rule_49 : decode cX3_rule 49 = .ok (.iload_n 2, 1) := by decide +kernel
theorem dX3_rule_50 : decode cX3_rule 50 = .ok (.bipush 8, 2) := by decide +kernel
theorem dX3_rule_52 : decode cX3_rule 52 = .ok (.invokestatic 57, 3) := by decide +kernel
theorem dX3_rule_55 : decode cX3_rule 55 = .ok (.ifCond .ne 10, 3) := by decide +kernel
theorem dX3_rule_58 : decode cX3_rule 58 = .ok (.iload_n 3, 1) := by decide +kernel
theorem dX3_rule_59 : decode cX3_rule 59 = .ok (.invokestatic 118, 3) := by decide +kernel
theorem dX3_rule_62 : decode cX3_rule 62 = .ok (.ifCond .ne 13, 3) := by decide +kernel
theorem dX3_rule_65 : decode cX3_rule 65 = .ok (.new 75, 3) := by decide +kernel
theorem dX3_rule_68 : decode cX3_rule 68 = .ok (.dup, 1) := by decide +kernel
theorem dX3_rule_69 : decode cX3_rule 69 = .ok (.ldc 122, 2) := by decide +kernel
theorem dX3_rule_71 : decode cX3_rule 71 = .ok (.invokespecial 79, 3) := by decide +kernel
theorem dX3_rule_74 : decode cX3_rule 74 = .ok (.athrow, 1) := by decide +kernel
theorem dX3_rule_75 : decode cX3_rule 75 = .ok (.iload 5, 2) := by decide +kernel
theorem dX3_rule_77 : decode cX3_rule 77 = .ok (.iload 4, 2) := by decide +kernel
theorem dX3_rule_79 : decode cX3_rule 79 = .ok (.if_icmp .lt 14, 3) := by decide +kernel
theorem dX3_rule_82 : decode cX3_rule 82 = .ok (.iload 6, 2) := by decide +kernel
theorem dX3_rule_84 : decode cX3_rule 84 = .ok (.sipush 301, 3) := by decide +kernel
theorem dX3_rule_87 : decode cX3_rule 87 = .ok (.invokestatic 57, 3) := by decide +kernel
theorem dX3_rule_90 : decode cX3_rule 90 = .ok (.ifCond .eq 13, 3) := by decide +kernel
theorem dX3_rule_93 : decode cX3_rule 93 = .ok (.new 75, 3) := by decide +kernel
theorem dX3_rule_96 : decode cX3_rule 96 = .ok (.dup, 1) := by decide +kernel
theorem dX3_rule_97 : decode cX3_rule 97 = .ok (.ldc 124, 2) := by decide +kernel
theorem dX3_rule_99 : decode cX3_rule 99 = .ok (.invokespecial 79, 3) := by decide +kernel
theorem dX3_rule_102 : decode cX3_rule 102 = .ok (.athrow, 1) := by decide +kernel
theorem dX3_rule_103 : decode cX3_rule 103 = .ok (.aload_n 0, 1) := by decide +kernel
theorem dX3_rule_104 : decode cX3_rule 104 = .ok (.getfield 16, 3) := by decide +kernel
theorem dX3_rule_107 : decode cX3_rule 107 = .ok (.invokevirtual 80, 3) := by decide +kernel
theorem dX3_rule_110 : decode cX3_rule 110 = .ok (.istore 7, 2) := by decide +kernel
theorem dX3_rule_112 : decode cX3_rule 112 = .ok (.iload 7, 2) := by decide +kernel
theorem dX3_rule_114 : decode cX3_rule 114 = .ok (.bipush 20, 2) := by decide +kernel
theorem dX3_rule_116 : decode cX3_rule 116 = .ok (.if_icmp .lt 13, 3) := by decide +kernel
theorem dX3_rule_119 : decode cX3_rule 119 = .ok (.new 68, 3) := by decide +kernel
theorem dX3_rule_122 : decode cX3_rule 122 = .ok (.dup, 1) := by decide +kernel
theorem dX3_rule_123 : decode cX3_rule 123 = .ok (.ldc 126, 2) := by decide +kernel
theorem dX3_rule_125 : decode cX3_rule 125 = .ok (.invokespecial 72, 3) := by decide +kernel
theorem dX3_rule_128 : decode cX3_rule 128 = .ok (.athrow, 1) := by decide +kernel
theorem dX3_rule_129 : decode cX3_rule 129 = .ok (.aload_n 0, 1) := by decide +kernel
theorem dX3_rule_130 : decode cX3_rule 130 = .ok (.getfield 16, 3) := by decide +kernel
theorem dX3_rule_133 : decode cX3_rule 133 = .ok (.new 128, 3) := by decide +kernel
theorem dX3_rule_136 : decode cX3_rule 136 = .ok (.dup, 1) := by decide +kernel
theorem dX3_rule_137 : decode cX3_rule 137 = .ok (.iload_n 1, 1) := by decide +kernel
theorem dX3_rule_138 : decode cX3_rule 138 = .ok (.iload_n 2, 1) := by decide +kernel
theorem dX3_rule_139 : decode cX3_rule 139 = .ok (.iload_n 3, 1) := by decide +kernel
theorem dX3_rule_140 : decode cX3_rule 140 = .ok (.iload 4, 2) := by decide +kernel
theorem dX3_rule_142 : decode cX3_rule 142 = .ok (.iload 5, 2) := by decide +kernel
theorem dX3_rule_144 : decode cX3_rule 144 = .ok (.iload 6, 2) := by decide +kernel
theorem dX3_rule_146 : decode cX3_rule 146 = .ok (.invokespecial 130, 3) := by decide +kernel
theorem dX3_rule_149 : decode cX3_rule 149 = .ok (.invokevirtual 94, 3) := by decide +kernel
theorem dX3_rule_152 : decode cX3_rule 152 = .ok (.pop, 1) := by decide +kernel
theorem dX3_rule_153 : decode cX3_rule 153 = .ok (.iload 7, 2) := by decide +kernel
theorem dX3_rule_155 : decode cX3_rule 155 = .ok (.ireturn, 1) := by decide +kernel
theorem dX3_rest_0 : decode cX3_rest 0 = .ok (.iload_n 1, 1) := by decide +kernel
theorem dX3_rest_1 : decode cX3_rest 1 = .ok (.aload_n 0, 1) := by decide +kernel
theorem dX3_rest_2 : decode cX3_rest 2 = .ok (.getfield 16, 3) := by decide +kernel
theorem dX3_rest_5 : decode cX3_rest 5 = .ok (.invokevirtual 80, 3) := by decide +kernel
theorem dX3_rest_8 : decode cX3_rest 8 = .ok (.invokestatic 57, 3) := by decide +kernel
theorem dX3_rest_11 : decode cX3_rest 11 = .ok (.ifCond .ne 17, 3) := by decide +kernel
theorem dX3_rest_14 : decode cX3_rest 14 = .ok (.iload_n 2, 1) := by decide +kernel
theorem dX3_rest_15 : decode cX3_rest 15 = .ok (.aload_n 0, 1) := by decide +kernel
theorem dX3_rest_16 : decode cX3_rest 16 = .ok (.getfield 10, 3) := by decide +kernel
theorem dX3_rest_19 : decode cX3_rest 19 = .ok (.invokevirtual 80, 3) := by decide +kernel
theorem dX3_rest_22 : decode cX3_rest 22 = .ok (.invokestatic 57, 3) := by decide +kernel
theorem dX3_rest_25 : decode cX3_rest 25 = .ok (.ifCond .eq 13, 3) := by decide +kernel
theorem dX3_rest_28 : decode cX3_rest 28 = .ok (.new 61, 3) := by decide +kernel
theorem dX3_rest_31 : decode cX3_rest 31 = .ok (.dup, 1) := by decide +kernel
theorem dX3_rest_32 : decode cX3_rest 32 = .ok (.ldc 133, 2) := by decide +kernel
theorem dX3_rest_34 : decode cX3_rest 34 = .ok (.invokespecial 65, 3) := by decide +kernel
theorem dX3_rest_37 : decode cX3_rest 37 = .ok (.athrow, 1) := by decide +kernel
theorem dX3_rest_38 : decode cX3_rest 38 = .ok (.aload_n 0, 1) := by decide +kernel
theorem dX3_rest_39 : decode cX3_rest 39 = .ok (.getfield 16, 3) := by decide +kernel
theorem dX3_rest_42 : decode cX3_rest 42 = .ok (.iload_n 1, 1) := by decide +kernel
theorem dX3_rest_43 : decode cX3_rest 43 = .ok (.invokevirtual 108, 3) := by decide +kernel
theorem dX3_rest_46 : decode cX3_rest 46 = .ok (.checkcast 128, 3) := by decide +kernel
theorem dX3_rest_49 : decode cX3_rest 49 = .ok (.astore_n 3, 1) := by decide +kernel
theorem dX3_rest_50 : decode cX3_rest 50 = .ok (.aload_n 0, 1) := by decide +kernel
theorem dX3_rest_51 : decode cX3_rest 51 = .ok (.getfield 10, 3) := by decide +kernel
theorem dX3_rest_54 : decode cX3_rest 54 = .ok (.iload_n 2, 1) := by decide +kernel
theorem dX3_rest_55 : decode cX3_rest 55 = .ok (.invokevirtual 108, 3) := by decide +kernel
theorem dX3_rest_58 : decode cX3_rest 58 = .ok (.checkcast 86, 3) := by decide +kernel
theorem dX3_rest_61 : decode cX3_rest 61 = .ok (.astore 4, 2) := by decide +kernel
theorem dX3_rest_63 : decode cX3_rest 63 = .ok (.aload_n 3, 1) := by decide +kernel
theorem dX3_rest_64 : decode cX3_rest 64 = .ok (.getfield 135, 3) := by decide +kernel
theorem dX3_rest_67 : decode cX3_rest 67 = .ok (.ifCond .ne 21, 3) := by decide +kernel
theorem dX3_rest_70 : decode cX3_rest 70 = .ok (.aload_n 0, 1) := by decide +kernel
theorem dX3_rest_71 : decode cX3_rest 71 = .ok (.aload 4, 2) := by decide +kernel
theorem dX3_rest_73 : decode cX3_rest 73 = .ok (.invokevirtual 139, 3) := by decide +kernel
theorem dX3_rest_76 : decode cX3_rest 76 = .ok (.ifCond .eq 12, 3) := by decide +kernel
theorem dX3_rest_79 : decode cX3_rest 79 = .ok (.aload_n 3, 1) := by decide +kernel
theorem dX3_rest_80 : decode cX3_rest 80 = .ok (.aload 4, 2) := by decide +kernel
theorem dX3_rest_82 : decode cX3_rest 82 = .ok (.invokevirtual 143, 3) := by decide +kernel
theorem dX3_rest_85 : decode cX3_rest 85 = .ok (.ifCond .eq 13, 3) := by decide +kernel
theorem dX3_rest_88 : decode cX3_rest 88 = .ok (.new 68, 3) := by decide +kernel
theorem dX3_rest_91 : decode cX3_rest 91 = .ok (.dup, 1) := by decide +kernel
theorem dX3_rest_92 : decode cX3_rest 92 = .ok (.ldc 146, 2) := by decide +kernel
theorem dX3_rest_94 : decode cX3_rest 94 = .ok (.invokespecial 72, 3) := by decide +kernel
theorem dX3_rest_97 : decode cX3_rest 97 = .ok (.athrow, 1) := by decide +kernel
theorem dX3_rest_98 : decode cX3_rest 98 = .ok (.aload_n 3, 1) := by decide +kernel
theorem dX3_rest_99 : decode cX3_rest 99 = .ok (.dup, 1) := by decide +kernel
theorem dX3_rest_100 : decode cX3_rest 100 = .ok (.getfield 148, 3) := by decide +kernel
theorem dX3_rest_103 : decode cX3_rest 103 = .ok (.aload 4, 2) := by decide +kernel
theorem dX3_rest_105 : decode cX3_rest 105 = .ok (.getfield 151, 3) := by decide +kernel
theorem dX3_rest_108 : decode cX3_rest 108 = .ok (.lor, 1) := by decide +kernel
theorem dX3_rest_109 : decode cX3_rest 109 = .ok (.putfield 148, 3) := by decide +kernel
theorem dX3_rest_112 : decode cX3_rest 112 = .ok (.aload_n 3, 1) := by decide +kernel
theorem dX3_rest_113 : decode cX3_rest 113 = .ok (.getfield 148, 3) := by decide +kernel
theorem dX3_rest_116 : decode cX3_rest 116 = .ok (.invokestatic 154, 3) := by decide +kernel
theorem dX3_rest_119 : decode cX3_rest 119 = .ok (.ireturn, 1) := by decide +kernel
theorem dX3_stands_0 : decode cX3_stands 0 = .ok (.iload_n 1, 1) := by decide +kernel
theorem dX3_stands_1 : decode cX3_stands 1 = .ok (.aload_n 0, 1) := by decide +kernel
theorem dX3_stands_2 : decode cX3_stands 2 = .ok (.getfield 16, 3) := by decide +kernel
theorem dX3_stands_5 : decode cX3_stands 5 = .ok (.invokevirtual 80, 3) := by decide +kernel
theorem dX3_stands_8 : decode cX3_stands 8 = .ok (.invokestatic 57, 3) := by decide +kernel
theorem dX3_stands_11 : decode cX3_stands 11 = .ok (.ifCond .eq 13, 3) := by decide +kernel
theorem dX3_stands_14 : decode cX3_stands 14 = .ok (.new 61, 3) := by decide +kernel
theorem dX3_stands_17 : decode cX3_stands 17 = .ok (.dup, 1) := by decide +kernel
theorem dX3_stands_18 : decode cX3_stands 18 = .ok (.ldc 160, 2) := by decide +kernel
theorem dX3_stands_20 : decode cX3_stands 20 = .ok (.invokespecial 65, 3) := by decide +kernel
theorem dX3_stands_23 : decode cX3_stands 23 = .ok (.athrow, 1) := by decide +kernel
theorem dX3_stands_24 : decode cX3_stands 24 = .ok (.aload_n 0, 1) := by decide +kernel
theorem dX3_stands_25 : decode cX3_stands 25 = .ok (.getfield 16, 3) := by decide +kernel
theorem dX3_stands_28 : decode cX3_stands 28 = .ok (.iload_n 1, 1) := by decide +kernel
theorem dX3_stands_29 : decode cX3_stands 29 = .ok (.invokevirtual 108, 3) := by decide +kernel
theorem dX3_stands_32 : decode cX3_stands 32 = .ok (.checkcast 128, 3) := by decide +kernel
theorem dX3_stands_35 : decode cX3_stands 35 = .ok (.getfield 135, 3) := by decide +kernel
theorem dX3_stands_38 : decode cX3_stands 38 = .ok (.ifCond .ne 7, 3) := by decide +kernel
theorem dX3_stands_41 : decode cX3_stands 41 = .ok (.iconst 1, 1) := by decide +kernel
theorem dX3_stands_42 : decode cX3_stands 42 = .ok (.goto 4, 3) := by decide +kernel
theorem dX3_stands_45 : decode cX3_stands 45 = .ok (.iconst 0, 1) := by decide +kernel
theorem dX3_stands_46 : decode cX3_stands 46 = .ok (.ireturn, 1) := by decide +kernel
theorem dX3_expected_0 : decode cX3_expected 0 = .ok (.iload_n 1, 1) := by decide +kernel
theorem dX3_expected_1 : decode cX3_expected 1 = .ok (.iconst 4, 1) := by decide +kernel
theorem dX3_expected_2 : decode cX3_expected 2 = .ok (.invokestatic 57, 3) := by decide +kernel
theorem dX3_expected_5 : decode cX3_expected 5 = .ok (.ifCond .ne 12, 3) := by decide +kernel
theorem dX3_expected_8 : decode cX3_expected 8 = .ok (.iload_n 2, 1) := by decide +kernel
theorem dX3_expected_9 : decode cX3_expected 9 = .ok (.bipush 10, 2) := by decide +kernel
theorem dX3_expected_11 : decode cX3_expected 11 = .ok (.invokestatic 57, 3) := by decide +kernel
theorem dX3_expected_14 : decode cX3_expected 14 = .ok (.ifCond .eq 13, 3) := by decide +kernel
theorem dX3_expected_17 : decode cX3_expected 17 = .ok (.new 61, 3) := by decide +kernel
theorem dX3_expected_20 : decode cX3_expected 20 = .ok (.dup, 1) := by decide +kernel
theorem dX3_expected_21 : decode cX3_expected 21 = .ok (.ldc 162, 2) := by decide +kernel
theorem dX3_expected_23 : decode cX3_expected 23 = .ok (.invokespecial 65, 3) := by decide +kernel
theorem dX3_expected_26 : decode cX3_expected 26 = .ok (.athrow, 1) := by decide +kernel
theorem dX3_expected_27 : decode cX3_expected 27 = .ok (.iload_n 3, 1) := by decide +kernel
theorem dX3_expected_28 : decode cX3_expected 28 = .ok (.sipush 301, 3) := by decide +kernel
theorem dX3_expected_31 : decode cX3_expected 31 = .ok (.invokestatic 57, 3) := by decide +kernel
theorem dX3_expected_34 : decode cX3_expected 34 = .ok (.ifCond .eq 13, 3) := by decide +kernel
theorem dX3_expected_37 : decode cX3_expected 37 = .ok (.new 75, 3) := by decide +kernel
theorem dX3_expected_40 : decode cX3_expected 40 = .ok (.dup, 1) := by decide +kernel
theorem dX3_expected_41 : decode cX3_expected 41 = .ok (.ldc 77, 2) := by decide +kernel
theorem dX3_expected_43 : decode cX3_expected 43 = .ok (.invokespecial 79, 3) := by decide +kernel
theorem dX3_expected_46 : decode cX3_expected 46 = .ok (.athrow, 1) := by decide +kernel
theorem dX3_expected_47 : decode cX3_expected 47 = .ok (.aload_n 0, 1) := by decide +kernel
theorem dX3_expected_48 : decode cX3_expected 48 = .ok (.aload_n 0, 1) := by decide +kernel
theorem dX3_expected_49 : decode cX3_expected 49 = .ok (.getfield 22, 3) := by decide +kernel
theorem dX3_expected_52 : decode cX3_expected 52 = .ok (.iload_n 1, 1) := by decide +kernel
theorem dX3_expected_53 : decode cX3_expected 53 = .ok (.iaload, 1) := by decide +kernel
theorem dX3_expected_54 : decode cX3_expected 54 = .ok (.iload_n 2, 1) := by decide +kernel
theorem dX3_expected_55 : decode cX3_expected 55 = .ok (.iload_n 3, 1) := by decide +kernel
theorem dX3_expected_56 : decode cX3_expected 56 = .ok (.invokevirtual 164, 3) := by decide +kernel
theorem dX3_expected_59 : decode cX3_expected 59 = .ok (.ireturn, 1) := by decide +kernel
theorem dX3_far_0 : decode cX3_far 0 = .ok (.iload_n 1, 1) := by decide +kernel
theorem dX3_far_1 : decode cX3_far 1 = .ok (.aload_n 0, 1) := by decide +kernel
theorem dX3_far_2 : decode cX3_far 2 = .ok (.getfield 10, 3) := by decide +kernel
theorem dX3_far_5 : decode cX3_far 5 = .ok (.invokevirtual 80, 3) := by decide +kernel
theorem dX3_far_8 : decode cX3_far 8 = .ok (.invokestatic 57, 3) := by decide +kernel
theorem dX3_far_11 : decode cX3_far 11 = .ok (.ifCond .eq 13, 3) := by decide +kernel
theorem dX3_far_14 : decode cX3_far 14 = .ok (.new 61, 3) := by decide +kernel
theorem dX3_far_17 : decode cX3_far 17 = .ok (.dup, 1) := by decide +kernel
theorem dX3_far_18 : decode cX3_far 18 = .ok (.ldc 106, 2) := by decide +kernel
theorem dX3_far_20 : decode cX3_far 20 = .ok (.invokespecial 65, 3) := by decide +kernel
theorem dX3_far_23 : decode cX3_far 23 = .ok (.athrow, 1) := by decide +kernel
theorem dX3_far_24 : decode cX3_far 24 = .ok (.aload_n 0, 1) := by decide +kernel
theorem dX3_far_25 : decode cX3_far 25 = .ok (.getfield 10, 3) := by decide +kernel
theorem dX3_far_28 : decode cX3_far 28 = .ok (.iload_n 1, 1) := by decide +kernel
theorem dX3_far_29 : decode cX3_far 29 = .ok (.invokevirtual 108, 3) := by decide +kernel
theorem dX3_far_32 : decode cX3_far 32 = .ok (.checkcast 86, 3) := by decide +kernel
theorem dX3_far_35 : decode cX3_far 35 = .ok (.astore_n 2, 1) := by decide +kernel
theorem dX3_far_36 : decode cX3_far 36 = .ok (.aload_n 0, 1) := by decide +kernel
theorem dX3_far_37 : decode cX3_far 37 = .ok (.getfield 22, 3) := by decide +kernel
theorem dX3_far_40 : decode cX3_far 40 = .ok (.aload_n 2, 1) := by decide +kernel
theorem dX3_far_41 : decode cX3_far 41 = .ok (.getfield 168, 3) := by decide +kernel
theorem dX3_far_44 : decode cX3_far 44 = .ok (.iaload, 1) := by decide +kernel
theorem dX3_far_45 : decode cX3_far 45 = .ok (.istore_n 3, 1) := by decide +kernel
theorem dX3_far_46 : decode cX3_far 46 = .ok (.aload_n 0, 1) := by decide +kernel
theorem dX3_far_47 : decode cX3_far 47 = .ok (.aload_n 2, 1) := by decide +kernel
theorem dX3_far_48 : decode cX3_far 48 = .ok (.invokevirtual 139, 3) := by decide +kernel
theorem dX3_far_51 : decode cX3_far 51 = .ok (.ifCond .eq 8, 3) := by decide +kernel
theorem dX3_far_54 : decode cX3_far 54 = .ok (.iload_n 3, 1) := by decide +kernel
theorem dX3_far_55 : decode cX3_far 55 = .ok (.iconst (-1), 1) := by decide +kernel
theorem dX3_far_56 : decode cX3_far 56 = .ok (.if_icmp .ne 5, 3) := by decide +kernel
theorem dX3_far_59 : decode cX3_far 59 = .ok (.iconst (-1), 1) := by decide +kernel
theorem dX3_far_60 : decode cX3_far 60 = .ok (.ireturn, 1) := by decide +kernel
theorem dX3_far_61 : decode cX3_far 61 = .ok (.aload_n 0, 1) := by decide +kernel
theorem dX3_far_62 : decode cX3_far 62 = .ok (.getfield 36, 3) := by decide +kernel
theorem dX3_far_65 : decode cX3_far 65 = .ok (.aload_n 2, 1) := by decide +kernel
theorem dX3_far_66 : decode cX3_far 66 = .ok (.getfield 171, 3) := by decide +kernel
theorem dX3_far_69 : decode cX3_far 69 = .ok (.aload_n 0, 1) := by decide +kernel
theorem dX3_far_70 : decode cX3_far 70 = .ok (.iload_n 3, 1) := by decide +kernel
theorem dX3_far_71 : decode cX3_far 71 = .ok (.aload_n 2, 1) := by decide +kernel
theorem dX3_far_72 : decode cX3_far 72 = .ok (.getfield 174, 3) := by decide +kernel
theorem dX3_far_75 : decode cX3_far 75 = .ok (.aload_n 2, 1) := by decide +kernel
theorem dX3_far_76 : decode cX3_far 76 = .ok (.getfield 177, 3) := by decide +kernel
theorem dX3_far_79 : decode cX3_far 79 = .ok (.invokevirtual 164, 3) := by decide +kernel
theorem dX3_far_82 : decode cX3_far 82 = .ok (.invokevirtual 180, 3) := by decide +kernel
theorem dX3_far_85 : decode cX3_far 85 = .ok (.ireturn, 1) := by decide +kernel
theorem dX3_formAt_0 : decode cX3_formAt 0 = .ok (.iload_n 1, 1) := by decide +kernel
theorem dX3_formAt_1 : decode cX3_formAt 1 = .ok (.iconst 4, 1) := by decide +kernel
theorem dX3_formAt_2 : decode cX3_formAt 2 = .ok (.invokestatic 57, 3) := by decide +kernel
theorem dX3_formAt_5 : decode cX3_formAt 5 = .ok (.ifCond .ne 12, 3) := by decide +kernel
theorem dX3_formAt_8 : decode cX3_formAt 8 = .ok (.iload_n 2, 1) := by decide +kernel
theorem dX3_formAt_9 : decode cX3_formAt 9 = .ok (.bipush 10, 2) := by decide +kernel
theorem dX3_formAt_11 : decode cX3_formAt 11 = .ok (.invokestatic 57, 3) := by decide +kernel
theorem dX3_formAt_14 : decode cX3_formAt 14 = .ok (.ifCond .eq 13, 3) := by decide +kernel
theorem dX3_formAt_17 : decode cX3_formAt 17 = .ok (.new 61, 3) := by decide +kernel
theorem dX3_formAt_20 : decode cX3_formAt 20 = .ok (.dup, 1) := by decide +kernel
theorem dX3_formAt_21 : decode cX3_formAt 21 = .ok (.ldc 162, 2) := by decide +kernel
theorem dX3_formAt_23 : decode cX3_formAt 23 = .ok (.invokespecial 65, 3) := by decide +kernel
theorem dX3_formAt_26 : decode cX3_formAt 26 = .ok (.athrow, 1) := by decide +kernel
theorem dX3_formAt_27 : decode cX3_formAt 27 = .ok (.aload_n 0, 1) := by decide +kernel
theorem dX3_formAt_28 : decode cX3_formAt 28 = .ok (.iload_n 1, 1) := by decide +kernel
theorem dX3_formAt_29 : decode cX3_formAt 29 = .ok (.iload_n 2, 1) := by decide +kernel
theorem dX3_formAt_30 : decode cX3_formAt 30 = .ok (.invokevirtual 184, 3) := by decide +kernel
theorem dX3_formAt_33 : decode cX3_formAt 33 = .ok (.ireturn, 1) := by decide +kernel
theorem dX3_lines_0 : decode cX3_lines 0 = .ok (.iload_n 1, 1) := by decide +kernel
theorem dX3_lines_1 : decode cX3_lines 1 = .ok (.iconst 4, 1) := by decide +kernel
theorem dX3_lines_2 : decode cX3_lines 2 = .ok (.invokestatic 57, 3) := by decide +kernel
theorem dX3_lines_5 : decode cX3_lines 5 = .ok (.ifCond .eq 13, 3) := by decide +kernel
theorem dX3_lines_8 : decode cX3_lines 8 = .ok (.new 61, 3) := by decide +kernel
theorem dX3_lines_11 : decode cX3_lines 11 = .ok (.dup, 1) := by decide +kernel
theorem dX3_lines_12 : decode cX3_lines 12 = .ok (.ldc 102, 2) := by decide +kernel
theorem dX3_lines_14 : decode cX3_lines 14 = .ok (.invokespecial 65, 3) := by decide +kernel
theorem dX3_lines_17 : decode cX3_lines 17 = .ok (.athrow, 1) := by decide +kernel
theorem dX3_lines_18 : decode cX3_lines 18 = .ok (.aload_n 0, 1) := by decide +kernel
theorem dX3_lines_19 : decode cX3_lines 19 = .ok (.getfield 26, 3) := by decide +kernel
theorem dX3_lines_22 : decode cX3_lines 22 = .ok (.iload_n 1, 1) := by decide +kernel
theorem dX3_lines_23 : decode cX3_lines 23 = .ok (.iaload, 1) := by decide +kernel
theorem dX3_lines_24 : decode cX3_lines 24 = .ok (.ireturn, 1) := by decide +kernel
theorem dX3_linesByForms_0 : decode cX3_linesByForms 0 = .ok (.iload_n 1, 1) := by decide +kernel
theorem dX3_linesByForms_1 : decode cX3_linesByForms 1 = .ok (.iconst 4, 1) := by decide +kernel
theorem dX3_linesByForms_2 : decode cX3_linesByForms 2 = .ok (.invokestatic 57, 3) := by decide +kernel
theorem dX3_linesByForms_5 : decode cX3_linesByForms 5 = .ok (.ifCond .eq 13, 3) := by decide +kernel
theorem dX3_linesByForms_8 : decode cX3_linesByForms 8 = .ok (.new 61, 3) := by decide +kernel
theorem dX3_linesByForms_11 : decode cX3_linesByForms 11 = .ok (.dup, 1) := by decide +kernel
theorem dX3_linesByForms_12 : decode cX3_linesByForms 12 = .ok (.ldc 102, 2) := by decide +kernel
theorem dX3_linesByForms_14 : decode cX3_linesByForms 14 = .ok (.invokespecial 65, 3) := by decide +kernel
theorem dX3_linesByForms_17 : decode cX3_linesByForms 17 = .ok (.athrow, 1) := by decide +kernel
theorem dX3_linesByForms_18 : decode cX3_linesByForms 18 = .ok (.aload_n 0, 1) := by decide +kernel
theorem dX3_linesByForms_19 : decode cX3_linesByForms 19 = .ok (.iload_n 1, 1) := by decide +kernel
theorem dX3_linesByForms_20 : decode cX3_linesByForms 20 = .ok (.invokevirtual 98, 3) := by decide +kernel
theorem dX3_linesByForms_23 : decode cX3_linesByForms 23 = .ok (.ireturn, 1) := by decide +kernel
theorem dX3_forget_0 : decode cX3_forget 0 = .ok (.iload_n 1, 1) := by decide +kernel
theorem dX3_forget_1 : decode cX3_forget 1 = .ok (.bipush 8, 2) := by decide +kernel
theorem dX3_forget_3 : decode cX3_forget 3 = .ok (.invokestatic 57, 3) := by decide +kernel
theorem dX3_forget_6 : decode cX3_forget 6 = .ok (.ifCond .eq 13, 3) := by decide +kernel
theorem dX3_forget_9 : decode cX3_forget 9 = .ok (.new 61, 3) := by decide +kernel
theorem dX3_forget_12 : decode cX3_forget 12 = .ok (.dup, 1) := by decide +kernel
theorem dX3_forget_13 : decode cX3_forget 13 = .ok (.ldc 187, 2) := by decide +kernel
theorem dX3_forget_15 : decode cX3_forget 15 = .ok (.invokespecial 65, 3) := by decide +kernel
theorem dX3_forget_18 : decode cX3_forget 18 = .ok (.athrow, 1) := by decide +kernel
theorem dX3_forget_19 : decode cX3_forget 19 = .ok (.aload_n 0, 1) := by decide +kernel
theorem dX3_forget_20 : decode cX3_forget 20 = .ok (.iload_n 1, 1) := by decide +kernel
theorem dX3_forget_21 : decode cX3_forget 21 = .ok (.invokevirtual 189, 3) := by decide +kernel
theorem dX3_forget_24 : decode cX3_forget 24 = .ok (.lstore_n 2, 1) := by decide +kernel
theorem dX3_forget_25 : decode cX3_forget 25 = .ok (.aload_n 0, 1) := by decide +kernel
theorem dX3_forget_26 : decode cX3_forget 26 = .ok (.dup, 1) := by decide +kernel
theorem dX3_forget_27 : decode cX3_forget 27 = .ok (.getfield 40, 3) := by decide +kernel
theorem dX3_forget_30 : decode cX3_forget 30 = .ok (.lload_n 2, 1) := by decide +kernel
theorem dX3_forget_31 : decode cX3_forget 31 = .ok (.ldc2_w 193, 3) := by decide +kernel
theorem dX3_forget_34 : decode cX3_forget 34 = .ok (.lxor, 1) := by decide +kernel
theorem dX3_forget_35 : decode cX3_forget 35 = .ok (.land, 1) := by decide +kernel
theorem dX3_forget_36 : decode cX3_forget 36 = .ok (.putfield 40, 3) := by decide +kernel
theorem dX3_forget_39 : decode cX3_forget 39 = .ok (.iconst 0, 1) := by decide +kernel
theorem dX3_forget_40 : decode cX3_forget 40 = .ok (.istore 4, 2) := by decide +kernel
theorem dX3_forget_42 : decode cX3_forget 42 = .ok (.iload 4, 2) := by decide +kernel
theorem dX3_forget_44 : decode cX3_forget 44 = .ok (.aload_n 0, 1) := by decide +kernel
theorem dX3_forget_45 : decode cX3_forget 45 = .ok (.getfield 16, 3) := by decide +kernel
theorem dX3_forget_48 : decode cX3_forget 48 = .ok (.invokevirtual 80, 3) := by decide +kernel
theorem dX3_forget_51 : decode cX3_forget 51 = .ok (.if_icmp .ge 25, 3) := by decide +kernel
theorem dX3_forget_54 : decode cX3_forget 54 = .ok (.aload_n 0, 1) := by decide +kernel
theorem dX3_forget_55 : decode cX3_forget 55 = .ok (.getfield 16, 3) := by decide +kernel
theorem dX3_forget_58 : decode cX3_forget 58 = .ok (.iload 4, 2) := by decide +kernel
theorem dX3_forget_60 : decode cX3_forget 60 = .ok (.invokevirtual 108, 3) := by decide +kernel
theorem dX3_forget_63 : decode cX3_forget 63 = .ok (.checkcast 128, 3) := by decide +kernel
theorem dX3_forget_66 : decode cX3_forget 66 = .ok (.lload_n 2, 1) := by decide +kernel
theorem dX3_forget_67 : decode cX3_forget 67 = .ok (.invokevirtual 195, 3) := by decide +kernel
theorem dX3_forget_70 : decode cX3_forget 70 = .ok (.iinc 4 1, 3) := by decide +kernel
theorem dX3_forget_73 : decode cX3_forget 73 = .ok (.goto (-31), 3) := by decide +kernel
theorem dX3_forget_76 : decode cX3_forget 76 = .ok (.iconst 0, 1) := by decide +kernel
theorem dX3_forget_77 : decode cX3_forget 77 = .ok (.istore 4, 2) := by decide +kernel
theorem dX3_forget_79 : decode cX3_forget 79 = .ok (.iload 4, 2) := by decide +kernel
theorem dX3_forget_81 : decode cX3_forget 81 = .ok (.iconst 4, 1) := by decide +kernel
theorem dX3_forget_82 : decode cX3_forget 82 = .ok (.if_icmp .ge 22, 3) := by decide +kernel
theorem dX3_forget_85 : decode cX3_forget 85 = .ok (.aload_n 0, 1) := by decide +kernel
theorem dX3_forget_86 : decode cX3_forget 86 = .ok (.getfield 26, 3) := by decide +kernel
theorem dX3_forget_89 : decode cX3_forget 89 = .ok (.iload 4, 2) := by decide +kernel
theorem dX3_forget_91 : decode cX3_forget 91 = .ok (.aload_n 0, 1) := by decide +kernel
theorem dX3_forget_92 : decode cX3_forget 92 = .ok (.iload 4, 2) := by decide +kernel
theorem dX3_forget_94 : decode cX3_forget 94 = .ok (.invokevirtual 98, 3) := by decide +kernel
theorem dX3_forget_97 : decode cX3_forget 97 = .ok (.iastore, 1) := by decide +kernel
theorem dX3_forget_98 : decode cX3_forget 98 = .ok (.iinc 4 1, 3) := by decide +kernel
theorem dX3_forget_101 : decode cX3_forget 101 = .ok (.goto (-22), 3) := by decide +kernel
theorem dX3_forget_104 : decode cX3_forget 104 = .ok (.lload_n 2, 1) := by decide +kernel
theorem dX3_forget_105 : decode cX3_forget 105 = .ok (.invokestatic 154, 3) := by decide +kernel
theorem dX3_forget_108 : decode cX3_forget 108 = .ok (.ireturn, 1) := by decide +kernel
theorem dX3_copy_0 : decode cX3_copy 0 = .ok (.iload_n 1, 1) := by decide +kernel
theorem dX3_copy_1 : decode cX3_copy 1 = .ok (.iconst 3, 1) := by decide +kernel
theorem dX3_copy_2 : decode cX3_copy 2 = .ok (.invokestatic 57, 3) := by decide +kernel
theorem dX3_copy_5 : decode cX3_copy 5 = .ok (.ifCond .eq 13, 3) := by decide +kernel
theorem dX3_copy_8 : decode cX3_copy 8 = .ok (.new 61, 3) := by decide +kernel
theorem dX3_copy_11 : decode cX3_copy 11 = .ok (.dup, 1) := by decide +kernel
theorem dX3_copy_12 : decode cX3_copy 12 = .ok (.ldc 199, 2) := by decide +kernel
theorem dX3_copy_14 : decode cX3_copy 14 = .ok (.invokespecial 65, 3) := by decide +kernel
theorem dX3_copy_17 : decode cX3_copy 17 = .ok (.athrow, 1) := by decide +kernel
theorem dX3_copy_18 : decode cX3_copy 18 = .ok (.aload_n 0, 1) := by decide +kernel
theorem dX3_copy_19 : decode cX3_copy 19 = .ok (.getfield 29, 3) := by decide +kernel
theorem dX3_copy_22 : decode cX3_copy 22 = .ok (.iload_n 1, 1) := by decide +kernel
theorem dX3_copy_23 : decode cX3_copy 23 = .ok (.aload_n 0, 1) := by decide +kernel
theorem dX3_copy_24 : decode cX3_copy 24 = .ok (.getfield 40, 3) := by decide +kernel
theorem dX3_copy_27 : decode cX3_copy 27 = .ok (.lastore, 1) := by decide +kernel
theorem dX3_copy_28 : decode cX3_copy 28 = .ok (.aload_n 0, 1) := by decide +kernel
theorem dX3_copy_29 : decode cX3_copy 29 = .ok (.getfield 40, 3) := by decide +kernel
theorem dX3_copy_32 : decode cX3_copy 32 = .ok (.invokestatic 154, 3) := by decide +kernel
theorem dX3_copy_35 : decode cX3_copy 35 = .ok (.ireturn, 1) := by decide +kernel
theorem dX3_tell_0 : decode cX3_tell 0 = .ok (.iload_n 1, 1) := by decide +kernel
theorem dX3_tell_1 : decode cX3_tell 1 = .ok (.iconst 3, 1) := by decide +kernel
theorem dX3_tell_2 : decode cX3_tell 2 = .ok (.invokestatic 57, 3) := by decide +kernel
theorem dX3_tell_5 : decode cX3_tell 5 = .ok (.ifCond .eq 13, 3) := by decide +kernel
theorem dX3_tell_8 : decode cX3_tell 8 = .ok (.new 61, 3) := by decide +kernel
theorem dX3_tell_11 : decode cX3_tell 11 = .ok (.dup, 1) := by decide +kernel
theorem dX3_tell_12 : decode cX3_tell 12 = .ok (.ldc 199, 2) := by decide +kernel
theorem dX3_tell_14 : decode cX3_tell 14 = .ok (.invokespecial 65, 3) := by decide +kernel
theorem dX3_tell_17 : decode cX3_tell 17 = .ok (.athrow, 1) := by decide +kernel
theorem dX3_tell_18 : decode cX3_tell 18 = .ok (.aload_n 0, 1) := by decide +kernel
theorem dX3_tell_19 : decode cX3_tell 19 = .ok (.getfield 29, 3) := by decide +kernel
theorem dX3_tell_22 : decode cX3_tell 22 = .ok (.iload_n 1, 1) := by decide +kernel
theorem dX3_tell_23 : decode cX3_tell 23 = .ok (.laload, 1) := by decide +kernel
theorem dX3_tell_24 : decode cX3_tell 24 = .ok (.aload_n 0, 1) := by decide +kernel
theorem dX3_tell_25 : decode cX3_tell 25 = .ok (.getfield 40, 3) := by decide +kernel
theorem dX3_tell_28 : decode cX3_tell 28 = .ok (.ldc2_w 193, 3) := by decide +kernel
theorem dX3_tell_31 : decode cX3_tell 31 = .ok (.lxor, 1) := by decide +kernel
theorem dX3_tell_32 : decode cX3_tell 32 = .ok (.land, 1) := by decide +kernel
theorem dX3_tell_33 : decode cX3_tell 33 = .ok (.lstore_n 2, 1) := by decide +kernel
theorem dX3_tell_34 : decode cX3_tell 34 = .ok (.aload_n 0, 1) := by decide +kernel
theorem dX3_tell_35 : decode cX3_tell 35 = .ok (.getfield 29, 3) := by decide +kernel
theorem dX3_tell_38 : decode cX3_tell 38 = .ok (.iload_n 1, 1) := by decide +kernel
theorem dX3_tell_39 : decode cX3_tell 39 = .ok (.dup2, 1) := by decide +kernel
theorem dX3_tell_40 : decode cX3_tell 40 = .ok (.laload, 1) := by decide +kernel
theorem dX3_tell_41 : decode cX3_tell 41 = .ok (.aload_n 0, 1) := by decide +kernel
theorem dX3_tell_42 : decode cX3_tell 42 = .ok (.getfield 40, 3) := by decide +kernel
theorem dX3_tell_45 : decode cX3_tell 45 = .ok (.land, 1) := by decide +kernel
theorem dX3_tell_46 : decode cX3_tell 46 = .ok (.lastore, 1) := by decide +kernel
theorem dX3_tell_47 : decode cX3_tell 47 = .ok (.lload_n 2, 1) := by decide +kernel
theorem dX3_tell_48 : decode cX3_tell 48 = .ok (.invokestatic 154, 3) := by decide +kernel
theorem dX3_tell_51 : decode cX3_tell 51 = .ok (.ireturn, 1) := by decide +kernel
theorem dX3_owed_0 : decode cX3_owed 0 = .ok (.iload_n 1, 1) := by decide +kernel
theorem dX3_owed_1 : decode cX3_owed 1 = .ok (.iconst 3, 1) := by decide +kernel
theorem dX3_owed_2 : decode cX3_owed 2 = .ok (.invokestatic 57, 3) := by decide +kernel
theorem dX3_owed_5 : decode cX3_owed 5 = .ok (.ifCond .eq 13, 3) := by decide +kernel
theorem dX3_owed_8 : decode cX3_owed 8 = .ok (.new 61, 3) := by decide +kernel
theorem dX3_owed_11 : decode cX3_owed 11 = .ok (.dup, 1) := by decide +kernel
theorem dX3_owed_12 : decode cX3_owed 12 = .ok (.ldc 199, 2) := by decide +kernel
theorem dX3_owed_14 : decode cX3_owed 14 = .ok (.invokespecial 65, 3) := by decide +kernel
theorem dX3_owed_17 : decode cX3_owed 17 = .ok (.athrow, 1) := by decide +kernel
theorem dX3_owed_18 : decode cX3_owed 18 = .ok (.aload_n 0, 1) := by decide +kernel
theorem dX3_owed_19 : decode cX3_owed 19 = .ok (.getfield 29, 3) := by decide +kernel
theorem dX3_owed_22 : decode cX3_owed 22 = .ok (.iload_n 1, 1) := by decide +kernel
theorem dX3_owed_23 : decode cX3_owed 23 = .ok (.laload, 1) := by decide +kernel
theorem dX3_owed_24 : decode cX3_owed 24 = .ok (.aload_n 0, 1) := by decide +kernel
theorem dX3_owed_25 : decode cX3_owed 25 = .ok (.getfield 40, 3) := by decide +kernel
theorem dX3_owed_28 : decode cX3_owed 28 = .ok (.ldc2_w 193, 3) := by decide +kernel
theorem dX3_owed_31 : decode cX3_owed 31 = .ok (.lxor, 1) := by decide +kernel
theorem dX3_owed_32 : decode cX3_owed 32 = .ok (.land, 1) := by decide +kernel
theorem dX3_owed_33 : decode cX3_owed 33 = .ok (.invokestatic 154, 3) := by decide +kernel
theorem dX3_owed_36 : decode cX3_owed 36 = .ok (.ireturn, 1) := by decide +kernel
theorem dX3_quote_0 : decode cX3_quote 0 = .ok (.iload_n 1, 1) := by decide +kernel
theorem dX3_quote_1 : decode cX3_quote 1 = .ok (.aload_n 0, 1) := by decide +kernel
theorem dX3_quote_2 : decode cX3_quote 2 = .ok (.getfield 10, 3) := by decide +kernel
theorem dX3_quote_5 : decode cX3_quote 5 = .ok (.invokevirtual 80, 3) := by decide +kernel
theorem dX3_quote_8 : decode cX3_quote 8 = .ok (.invokestatic 57, 3) := by decide +kernel
theorem dX3_quote_11 : decode cX3_quote 11 = .ok (.ifCond .eq 13, 3) := by decide +kernel
theorem dX3_quote_14 : decode cX3_quote 14 = .ok (.new 61, 3) := by decide +kernel
theorem dX3_quote_17 : decode cX3_quote 17 = .ok (.dup, 1) := by decide +kernel
theorem dX3_quote_18 : decode cX3_quote 18 = .ok (.ldc 106, 2) := by decide +kernel
theorem dX3_quote_20 : decode cX3_quote 20 = .ok (.invokespecial 65, 3) := by decide +kernel
theorem dX3_quote_23 : decode cX3_quote 23 = .ok (.athrow, 1) := by decide +kernel
theorem dX3_quote_24 : decode cX3_quote 24 = .ok (.aload_n 0, 1) := by decide +kernel
theorem dX3_quote_25 : decode cX3_quote 25 = .ok (.getfield 10, 3) := by decide +kernel
theorem dX3_quote_28 : decode cX3_quote 28 = .ok (.iload_n 1, 1) := by decide +kernel
theorem dX3_quote_29 : decode cX3_quote 29 = .ok (.invokevirtual 108, 3) := by decide +kernel
theorem dX3_quote_32 : decode cX3_quote 32 = .ok (.checkcast 86, 3) := by decide +kernel
theorem dX3_quote_35 : decode cX3_quote 35 = .ok (.astore_n 2, 1) := by decide +kernel
theorem dX3_quote_36 : decode cX3_quote 36 = .ok (.aload_n 0, 1) := by decide +kernel
theorem dX3_quote_37 : decode cX3_quote 37 = .ok (.getfield 19, 3) := by decide +kernel
theorem dX3_quote_40 : decode cX3_quote 40 = .ok (.invokevirtual 80, 3) := by decide +kernel
theorem dX3_quote_43 : decode cX3_quote 43 = .ok (.istore_n 3, 1) := by decide +kernel
theorem dX3_quote_44 : decode cX3_quote 44 = .ok (.aload_n 0, 1) := by decide +kernel
theorem dX3_quote_45 : decode cX3_quote 45 = .ok (.aload_n 2, 1) := by decide +kernel
theorem dX3_quote_46 : decode cX3_quote 46 = .ok (.invokevirtual 139, 3) := by decide +kernel
theorem dX3_quote_49 : decode cX3_quote 49 = .ok (.ifCond .eq 9, 3) := by decide +kernel
theorem dX3_quote_52 : decode cX3_quote 52 = .ok (.iload_n 3, 1) := by decide +kernel
theorem dX3_quote_53 : decode cX3_quote 53 = .ok (.bipush 20, 2) := by decide +kernel
theorem dX3_quote_55 : decode cX3_quote 55 = .ok (.if_icmp .lt 13, 3) := by decide +kernel
theorem dX3_quote_58 : decode cX3_quote 58 = .ok (.new 68, 3) := by decide +kernel
theorem dX3_quote_61 : decode cX3_quote 61 = .ok (.dup, 1) := by decide +kernel
theorem dX3_quote_62 : decode cX3_quote 62 = .ok (.ldc 201, 2) := by decide +kernel
theorem dX3_quote_64 : decode cX3_quote 64 = .ok (.invokespecial 72, 3) := by decide +kernel
theorem dX3_quote_67 : decode cX3_quote 67 = .ok (.athrow, 1) := by decide +kernel
theorem dX3_quote_68 : decode cX3_quote 68 = .ok (.aload_n 0, 1) := by decide +kernel
theorem dX3_quote_69 : decode cX3_quote 69 = .ok (.getfield 19, 3) := by decide +kernel
theorem dX3_quote_72 : decode cX3_quote 72 = .ok (.aload_n 2, 1) := by decide +kernel
theorem dX3_quote_73 : decode cX3_quote 73 = .ok (.invokevirtual 94, 3) := by decide +kernel
theorem dX3_quote_76 : decode cX3_quote 76 = .ok (.pop, 1) := by decide +kernel
theorem dX3_quote_77 : decode cX3_quote 77 = .ok (.iload_n 3, 1) := by decide +kernel
theorem dX3_quote_78 : decode cX3_quote 78 = .ok (.ireturn, 1) := by decide +kernel
theorem dX3_quoted_0 : decode cX3_quoted 0 = .ok (.iload_n 1, 1) := by decide +kernel
theorem dX3_quoted_1 : decode cX3_quoted 1 = .ok (.aload_n 0, 1) := by decide +kernel
theorem dX3_quoted_2 : decode cX3_quoted 2 = .ok (.getfield 19, 3) := by decide +kernel
theorem dX3_quoted_5 : decode cX3_quoted 5 = .ok (.invokevirtual 80, 3) := by decide +kernel
theorem dX3_quoted_8 : decode cX3_quoted 8 = .ok (.invokestatic 57, 3) := by decide +kernel
theorem dX3_quoted_11 : decode cX3_quoted 11 = .ok (.ifCond .eq 13, 3) := by decide +kernel
theorem dX3_quoted_14 : decode cX3_quoted 14 = .ok (.new 61, 3) := by decide +kernel
theorem dX3_quoted_17 : decode cX3_quoted 17 = .ok (.dup, 1) := by decide +kernel
theorem dX3_quoted_18 : decode cX3_quoted 18 = .ok (.ldc 203, 2) := by decide +kernel
theorem dX3_quoted_20 : decode cX3_quoted 20 = .ok (.invokespecial 65, 3) := by decide +kernel
theorem dX3_quoted_23 : decode cX3_quoted 23 = .ok (.athrow, 1) := by decide +kernel
theorem dX3_quoted_24 : decode cX3_quoted 24 = .ok (.aload_n 0, 1) := by decide +kernel
theorem dX3_quoted_25 : decode cX3_quoted 25 = .ok (.aload_n 0, 1) := by decide +kernel
theorem dX3_quoted_26 : decode cX3_quoted 26 = .ok (.getfield 19, 3) := by decide +kernel
theorem dX3_quoted_29 : decode cX3_quoted 29 = .ok (.iload_n 1, 1) := by decide +kernel
theorem dX3_quoted_30 : decode cX3_quoted 30 = .ok (.invokevirtual 108, 3) := by decide +kernel
theorem dX3_quoted_33 : decode cX3_quoted 33 = .ok (.checkcast 86, 3) := by decide +kernel
theorem dX3_quoted_36 : decode cX3_quoted 36 = .ok (.invokevirtual 112, 3) := by decide +kernel
theorem dX3_quoted_39 : decode cX3_quoted 39 = .ok (.ireturn, 1) := by decide +kernel
theorem dX3_isOutside_0 : decode cX3_isOutside 0 = .ok (.iload_n 0, 1) := by decide +kernel
theorem dX3_isOutside_1 : decode cX3_isOutside 1 = .ok (.ifCond .lt 8, 3) := by decide +kernel
theorem dX3_isOutside_4 : decode cX3_isOutside 4 = .ok (.iload_n 0, 1) := by decide +kernel
theorem dX3_isOutside_5 : decode cX3_isOutside 5 = .ok (.iload_n 1, 1) := by decide +kernel
theorem dX3_isOutside_6 : decode cX3_isOutside 6 = .ok (.if_icmp .lt 7, 3) := by decide +kernel
theorem dX3_isOutside_9 : decode cX3_isOutside 9 = .ok (.iconst 1, 1) := by decide +kernel
theorem dX3_isOutside_10 : decode cX3_isOutside 10 = .ok (.goto 4, 3) := by decide +kernel
theorem dX3_isOutside_13 : decode cX3_isOutside 13 = .ok (.iconst 0, 1) := by decide +kernel
theorem dX3_isOutside_14 : decode cX3_isOutside 14 = .ok (.ireturn, 1) := by decide +kernel
theorem dX3_canStandBehind_0 : decode cX3_canStandBehind 0 = .ok (.iload_n 0, 1) := by decide +kernel
theorem dX3_canStandBehind_1 : decode cX3_canStandBehind 1 = .ok (.bipush 8, 2) := by decide +kernel
theorem dX3_canStandBehind_3 : decode cX3_canStandBehind 3 = .ok (.if_icmp .eq 18, 3) := by decide +kernel
theorem dX3_canStandBehind_6 : decode cX3_canStandBehind 6 = .ok (.iload_n 0, 1) := by decide +kernel
theorem dX3_canStandBehind_7 : decode cX3_canStandBehind 7 = .ok (.bipush 9, 2) := by decide +kernel
theorem dX3_canStandBehind_9 : decode cX3_canStandBehind 9 = .ok (.if_icmp .eq 12, 3) := by decide +kernel
theorem dX3_canStandBehind_12 : decode cX3_canStandBehind 12 = .ok (.iload_n 0, 1) := by decide +kernel
theorem dX3_canStandBehind_13 : decode cX3_canStandBehind 13 = .ok (.bipush 8, 2) := by decide +kernel
theorem dX3_canStandBehind_15 : decode cX3_canStandBehind 15 = .ok (.invokestatic 57, 3) := by decide +kernel
theorem dX3_canStandBehind_18 : decode cX3_canStandBehind 18 = .ok (.ifCond .ne 7, 3) := by decide +kernel
theorem dX3_canStandBehind_21 : decode cX3_canStandBehind 21 = .ok (.iconst 1, 1) := by decide +kernel
theorem dX3_canStandBehind_22 : decode cX3_canStandBehind 22 = .ok (.goto 4, 3) := by decide +kernel
theorem dX3_canStandBehind_25 : decode cX3_canStandBehind 25 = .ok (.iconst 0, 1) := by decide +kernel
theorem dX3_canStandBehind_26 : decode cX3_canStandBehind 26 = .ok (.ireturn, 1) := by decide +kernel
theorem dX3_takeDraft_0 : decode cX3_takeDraft 0 = .ok (.aload_n 0, 1) := by decide +kernel
theorem dX3_takeDraft_1 : decode cX3_takeDraft 1 = .ok (.getfield 44, 3) := by decide +kernel
theorem dX3_takeDraft_4 : decode cX3_takeDraft 4 = .ok (.istore_n 1, 1) := by decide +kernel
theorem dX3_takeDraft_5 : decode cX3_takeDraft 5 = .ok (.aload_n 0, 1) := by decide +kernel
theorem dX3_takeDraft_6 : decode cX3_takeDraft 6 = .ok (.iconst 0, 1) := by decide +kernel
theorem dX3_takeDraft_7 : decode cX3_takeDraft 7 = .ok (.putfield 44, 3) := by decide +kernel
theorem dX3_takeDraft_10 : decode cX3_takeDraft 10 = .ok (.aload_n 0, 1) := by decide +kernel
theorem dX3_takeDraft_11 : decode cX3_takeDraft 11 = .ok (.iconst 0, 1) := by decide +kernel
theorem dX3_takeDraft_12 : decode cX3_takeDraft 12 = .ok (.putfield 48, 3) := by decide +kernel
theorem dX3_takeDraft_15 : decode cX3_takeDraft 15 = .ok (.iload_n 1, 1) := by decide +kernel
theorem dX3_takeDraft_16 : decode cX3_takeDraft 16 = .ok (.ireturn, 1) := by decide +kernel
theorem dX3_isThere_0 : decode cX3_isThere 0 = .ok (.aload_n 0, 1) := by decide +kernel
theorem dX3_isThere_1 : decode cX3_isThere 1 = .ok (.getfield 40, 3) := by decide +kernel
theorem dX3_isThere_4 : decode cX3_isThere 4 = .ok (.aload_n 1, 1) := by decide +kernel
theorem dX3_isThere_5 : decode cX3_isThere 5 = .ok (.getfield 151, 3) := by decide +kernel
theorem dX3_isThere_8 : decode cX3_isThere 8 = .ok (.land, 1) := by decide +kernel
theorem dX3_isThere_9 : decode cX3_isThere 9 = .ok (.lconst 0, 1) := by decide +kernel
theorem dX3_isThere_10 : decode cX3_isThere 10 = .ok (.lcmp, 1) := by decide +kernel
theorem dX3_isThere_11 : decode cX3_isThere 11 = .ok (.ifCond .eq 7, 3) := by decide +kernel
theorem dX3_isThere_14 : decode cX3_isThere 14 = .ok (.iconst 1, 1) := by decide +kernel
theorem dX3_isThere_15 : decode cX3_isThere 15 = .ok (.goto 4, 3) := by decide +kernel
theorem dX3_isThere_18 : decode cX3_isThere 18 = .ok (.iconst 0, 1) := by decide +kernel
theorem dX3_isThere_19 : decode cX3_isThere 19 = .ok (.ireturn, 1) := by decide +kernel
theorem dX3_formIfThere_0 : decode cX3_formIfThere 0 = .ok (.aload_n 0, 1) := by decide +kernel
theorem dX3_formIfThere_1 : decode cX3_formIfThere 1 = .ok (.aload_n 1, 1) := by decide +kernel
theorem dX3_formIfThere_2 : decode cX3_formIfThere 2 = .ok (.invokevirtual 139, 3) := by decide +kernel
theorem dX3_formIfThere_5 : decode cX3_formIfThere 5 = .ok (.ifCond .eq 10, 3) := by decide +kernel
theorem dX3_formIfThere_8 : decode cX3_formIfThere 8 = .ok (.aload_n 1, 1) := by decide +kernel
theorem dX3_formIfThere_9 : decode cX3_formIfThere 9 = .ok (.getfield 171, 3) := by decide +kernel
theorem dX3_formIfThere_12 : decode cX3_formIfThere 12 = .ok (.goto 4, 3) := by decide +kernel
theorem dX3_formIfThere_15 : decode cX3_formIfThere 15 = .ok (.iconst (-1), 1) := by decide +kernel
theorem dX3_formIfThere_16 : decode cX3_formIfThere 16 = .ok (.ireturn, 1) := by decide +kernel
theorem dX3_interviewsOf_0 : decode cX3_interviewsOf 0 = .ok (.lconst 0, 1) := by decide +kernel
theorem dX3_interviewsOf_1 : decode cX3_interviewsOf 1 = .ok (.lstore_n 2, 1) := by decide +kernel
theorem dX3_interviewsOf_2 : decode cX3_interviewsOf 2 = .ok (.iconst 0, 1) := by decide +kernel
theorem dX3_interviewsOf_3 : decode cX3_interviewsOf 3 = .ok (.istore 4, 2) := by decide +kernel
theorem dX3_interviewsOf_5 : decode cX3_interviewsOf 5 = .ok (.iload 4, 2) := by decide +kernel
theorem dX3_interviewsOf_7 : decode cX3_interviewsOf 7 = .ok (.aload_n 0, 1) := by decide +kernel
theorem dX3_interviewsOf_8 : decode cX3_interviewsOf 8 = .ok (.getfield 10, 3) := by decide +kernel
theorem dX3_interviewsOf_11 : decode cX3_interviewsOf 11 = .ok (.invokevirtual 80, 3) := by decide +kernel
theorem dX3_interviewsOf_14 : decode cX3_interviewsOf 14 = .ok (.if_icmp .ge 49, 3) := by decide +kernel
theorem dX3_interviewsOf_17 : decode cX3_interviewsOf 17 = .ok (.aload_n 0, 1) := by decide +kernel
theorem dX3_interviewsOf_18 : decode cX3_interviewsOf 18 = .ok (.getfield 10, 3) := by decide +kernel
theorem dX3_interviewsOf_21 : decode cX3_interviewsOf 21 = .ok (.iload 4, 2) := by decide +kernel
theorem dX3_interviewsOf_23 : decode cX3_interviewsOf 23 = .ok (.invokevirtual 108, 3) := by decide +kernel
theorem dX3_interviewsOf_26 : decode cX3_interviewsOf 26 = .ok (.checkcast 86, 3) := by decide +kernel
theorem dX3_interviewsOf_29 : decode cX3_interviewsOf 29 = .ok (.astore 5, 2) := by decide +kernel
theorem dX3_interviewsOf_31 : decode cX3_interviewsOf 31 = .ok (.aload_n 0, 1) := by decide +kernel
theorem dX3_interviewsOf_32 : decode cX3_interviewsOf 32 = .ok (.aload 5, 2) := by decide +kernel
theorem dX3_interviewsOf_34 : decode cX3_interviewsOf 34 = .ok (.invokevirtual 139, 3) := by decide +kernel
theorem dX3_interviewsOf_37 : decode cX3_interviewsOf 37 = .ok (.ifCond .eq 20, 3) := by decide +kernel
theorem dX3_interviewsOf_40 : decode cX3_interviewsOf 40 = .ok (.aload 5, 2) := by decide +kernel
theorem dX3_interviewsOf_42 : decode cX3_interviewsOf 42 = .ok (.getfield 205, 3) := by decide +kernel
theorem dX3_interviewsOf_45 : decode cX3_interviewsOf 45 = .ok (.iload_n 1, 1) := by decide +kernel
theorem dX3_interviewsOf_46 : decode cX3_interviewsOf 46 = .ok (.if_icmp .ne 11, 3) := by decide +kernel
theorem dX3_interviewsOf_49 : decode cX3_interviewsOf 49 = .ok (.lload_n 2, 1) := by decide +kernel
theorem dX3_interviewsOf_50 : decode cX3_interviewsOf 50 = .ok (.aload 5, 2) := by decide +kernel
theorem dX3_interviewsOf_52 : decode cX3_interviewsOf 52 = .ok (.getfield 151, 3) := by decide +kernel
theorem dX3_interviewsOf_55 : decode cX3_interviewsOf 55 = .ok (.lor, 1) := by decide +kernel
theorem dX3_interviewsOf_56 : decode cX3_interviewsOf 56 = .ok (.lstore_n 2, 1) := by decide +kernel
theorem dX3_interviewsOf_57 : decode cX3_interviewsOf 57 = .ok (.iinc 4 1, 3) := by decide +kernel
theorem dX3_interviewsOf_60 : decode cX3_interviewsOf 60 = .ok (.goto (-55), 3) := by decide +kernel
theorem dX3_interviewsOf_63 : decode cX3_interviewsOf 63 = .ok (.lload_n 2, 1) := by decide +kernel
theorem dX3_interviewsOf_64 : decode cX3_interviewsOf 64 = .ok (.lreturn, 1) := by decide +kernel
theorem dX3_applyRules_0 : decode cX3_applyRules 0 = .ok (.iload_n 1, 1) := by decide +kernel
theorem dX3_applyRules_1 : decode cX3_applyRules 1 = .ok (.iconst (-1), 1) := by decide +kernel
theorem dX3_applyRules_2 : decode cX3_applyRules 2 = .ok (.if_icmp .ne 5, 3) := by decide +kernel
theorem dX3_applyRules_5 : decode cX3_applyRules 5 = .ok (.iconst (-1), 1) := by decide +kernel
theorem dX3_applyRules_6 : decode cX3_applyRules 6 = .ok (.ireturn, 1) := by decide +kernel
theorem dX3_applyRules_7 : decode cX3_applyRules 7 = .ok (.iload_n 1, 1) := by decide +kernel
theorem dX3_applyRules_8 : decode cX3_applyRules 8 = .ok (.istore 4, 2) := by decide +kernel
theorem dX3_applyRules_10 : decode cX3_applyRules 10 = .ok (.iconst 0, 1) := by decide +kernel
theorem dX3_applyRules_11 : decode cX3_applyRules 11 = .ok (.istore 5, 2) := by decide +kernel
theorem dX3_applyRules_13 : decode cX3_applyRules 13 = .ok (.iload 5, 2) := by decide +kernel
theorem dX3_applyRules_15 : decode cX3_applyRules 15 = .ok (.aload_n 0, 1) := by decide +kernel
theorem dX3_applyRules_16 : decode cX3_applyRules 16 = .ok (.getfield 16, 3) := by decide +kernel
theorem dX3_applyRules_19 : decode cX3_applyRules 19 = .ok (.invokevirtual 80, 3) := by decide +kernel
theorem dX3_applyRules_22 : decode cX3_applyRules 22 = .ok (.if_icmp .ge 42, 3) := by decide +kernel
theorem dX3_applyRules_25 : decode cX3_applyRules 25 = .ok (.aload_n 0, 1) := by decide +kernel
theorem dX3_applyRules_26 : decode cX3_applyRules 26 = .ok (.getfield 16, 3) := by decide +kernel
theorem dX3_applyRules_29 : decode cX3_applyRules 29 = .ok (.iload 5, 2) := by decide +kernel
theorem dX3_applyRules_31 : decode cX3_applyRules 31 = .ok (.invokevirtual 108, 3) := by decide +kernel
theorem dX3_applyRules_34 : decode cX3_applyRules 34 = .ok (.checkcast 128, 3) := by decide +kernel
theorem dX3_applyRules_37 : decode cX3_applyRules 37 = .ok (.astore 6, 2) := by decide +kernel
theorem dX3_applyRules_39 : decode cX3_applyRules 39 = .ok (.aload 6, 2) := by decide +kernel
theorem dX3_applyRules_41 : decode cX3_applyRules 41 = .ok (.iload_n 2, 1) := by decide +kernel
theorem dX3_applyRules_42 : decode cX3_applyRules 42 = .ok (.iload_n 3, 1) := by decide +kernel
theorem dX3_applyRules_43 : decode cX3_applyRules 43 = .ok (.invokevirtual 208, 3) := by decide +kernel
theorem dX3_applyRules_46 : decode cX3_applyRules 46 = .ok (.ifCond .eq 12, 3) := by decide +kernel
theorem dX3_applyRules_49 : decode cX3_applyRules 49 = .ok (.aload 6, 2) := by decide +kernel
theorem dX3_applyRules_51 : decode cX3_applyRules 51 = .ok (.iload 4, 2) := by decide +kernel
theorem dX3_applyRules_53 : decode cX3_applyRules 53 = .ok (.invokevirtual 211, 3) := by decide +kernel
theorem dX3_applyRules_56 : decode cX3_applyRules 56 = .ok (.istore 4, 2) := by decide +kernel
theorem dX3_applyRules_58 : decode cX3_applyRules 58 = .ok (.iinc 5 1, 3) := by decide +kernel
theorem dX3_applyRules_61 : decode cX3_applyRules 61 = .ok (.goto (-48), 3) := by decide +kernel
theorem dX3_applyRules_64 : decode cX3_applyRules 64 = .ok (.iload 4, 2) := by decide +kernel
theorem dX3_applyRules_66 : decode cX3_applyRules 66 = .ok (.ireturn, 1) := by decide +kernel
theorem dX3_mostToldForm_0 : decode cX3_mostToldForm 0 = .ok (.iconst (-1), 1) := by decide +kernel
theorem dX3_mostToldForm_1 : decode cX3_mostToldForm 1 = .ok (.istore_n 3, 1) := by decide +kernel
theorem dX3_mostToldForm_2 : decode cX3_mostToldForm 2 = .ok (.iconst 0, 1) := by decide +kernel
theorem dX3_mostToldForm_3 : decode cX3_mostToldForm 3 = .ok (.istore 4, 2) := by decide +kernel
theorem dX3_mostToldForm_5 : decode cX3_mostToldForm 5 = .ok (.iconst 0, 1) := by decide +kernel
theorem dX3_mostToldForm_6 : decode cX3_mostToldForm 6 = .ok (.istore 5, 2) := by decide +kernel
theorem dX3_mostToldForm_8 : decode cX3_mostToldForm 8 = .ok (.iload 5, 2) := by decide +kernel
theorem dX3_mostToldForm_10 : decode cX3_mostToldForm 10 = .ok (.aload_n 0, 1) := by decide +kernel
theorem dX3_mostToldForm_11 : decode cX3_mostToldForm 11 = .ok (.getfield 10, 3) := by decide +kernel
theorem dX3_mostToldForm_14 : decode cX3_mostToldForm 14 = .ok (.invokevirtual 80, 3) := by decide +kernel
theorem dX3_mostToldForm_17 : decode cX3_mostToldForm 17 = .ok (.if_icmp .ge 67, 3) := by decide +kernel
theorem dX3_mostToldForm_20 : decode cX3_mostToldForm 20 = .ok (.aload_n 0, 1) := by decide +kernel
theorem dX3_mostToldForm_21 : decode cX3_mostToldForm 21 = .ok (.getfield 10, 3) := by decide +kernel
theorem dX3_mostToldForm_24 : decode cX3_mostToldForm 24 = .ok (.iload 5, 2) := by decide +kernel
theorem dX3_mostToldForm_26 : decode cX3_mostToldForm 26 = .ok (.invokevirtual 108, 3) := by decide +kernel
theorem dX3_mostToldForm_29 : decode cX3_mostToldForm 29 = .ok (.checkcast 86, 3) := by decide +kernel
theorem dX3_mostToldForm_32 : decode cX3_mostToldForm 32 = .ok (.astore 6, 2) := by decide +kernel
theorem dX3_mostToldForm_34 : decode cX3_mostToldForm 34 = .ok (.aload_n 0, 1) := by decide +kernel
theorem dX3_mostToldForm_35 : decode cX3_mostToldForm 35 = .ok (.aload 6, 2) := by decide +kernel
theorem dX3_mostToldForm_37 : decode cX3_mostToldForm 37 = .ok (.invokevirtual 139, 3) := by decide +kernel
theorem dX3_mostToldForm_40 : decode cX3_mostToldForm 40 = .ok (.ifCond .eq 38, 3) := by decide +kernel
theorem dX3_mostToldForm_43 : decode cX3_mostToldForm 43 = .ok (.aload 6, 2) := by decide +kernel
theorem dX3_mostToldForm_45 : decode cX3_mostToldForm 45 = .ok (.iload_n 1, 1) := by decide +kernel
theorem dX3_mostToldForm_46 : decode cX3_mostToldForm 46 = .ok (.iload_n 2, 1) := by decide +kernel
theorem dX3_mostToldForm_47 : decode cX3_mostToldForm 47 = .ok (.invokevirtual 214, 3) := by decide +kernel
theorem dX3_mostToldForm_50 : decode cX3_mostToldForm 50 = .ok (.ifCond .eq 28, 3) := by decide +kernel
theorem dX3_mostToldForm_53 : decode cX3_mostToldForm 53 = .ok (.aload_n 0, 1) := by decide +kernel
theorem dX3_mostToldForm_54 : decode cX3_mostToldForm 54 = .ok (.aload 6, 2) := by decide +kernel
theorem dX3_mostToldForm_56 : decode cX3_mostToldForm 56 = .ok (.invokevirtual 217, 3) := by decide +kernel
theorem dX3_mostToldForm_59 : decode cX3_mostToldForm 59 = .ok (.istore 7, 2) := by decide +kernel
theorem dX3_mostToldForm_61 : decode cX3_mostToldForm 61 = .ok (.iload 7, 2) := by decide +kernel
theorem dX3_mostToldForm_63 : decode cX3_mostToldForm 63 = .ok (.iload 4, 2) := by decide +kernel
theorem dX3_mostToldForm_65 : decode cX3_mostToldForm 65 = .ok (.if_icmp .le 13, 3) := by decide +kernel
theorem dX3_mostToldForm_68 : decode cX3_mostToldForm 68 = .ok (.iload 7, 2) := by decide +kernel
theorem dX3_mostToldForm_70 : decode cX3_mostToldForm 70 = .ok (.istore 4, 2) := by decide +kernel
theorem dX3_mostToldForm_72 : decode cX3_mostToldForm 72 = .ok (.aload 6, 2) := by decide +kernel
theorem dX3_mostToldForm_74 : decode cX3_mostToldForm 74 = .ok (.getfield 171, 3) := by decide +kernel
theorem dX3_mostToldForm_77 : decode cX3_mostToldForm 77 = .ok (.istore_n 3, 1) := by decide +kernel
theorem dX3_mostToldForm_78 : decode cX3_mostToldForm 78 = .ok (.iinc 5 1, 3) := by decide +kernel
theorem dX3_mostToldForm_81 : decode cX3_mostToldForm 81 = .ok (.goto (-73), 3) := by decide +kernel
theorem dX3_mostToldForm_84 : decode cX3_mostToldForm 84 = .ok (.iload_n 3, 1) := by decide +kernel
theorem dX3_mostToldForm_85 : decode cX3_mostToldForm 85 = .ok (.ireturn, 1) := by decide +kernel
theorem dX3_countLike_0 : decode cX3_countLike 0 = .ok (.iconst 0, 1) := by decide +kernel
theorem dX3_countLike_1 : decode cX3_countLike 1 = .ok (.istore_n 2, 1) := by decide +kernel
theorem dX3_countLike_2 : decode cX3_countLike 2 = .ok (.iconst 0, 1) := by decide +kernel
theorem dX3_countLike_3 : decode cX3_countLike 3 = .ok (.istore_n 3, 1) := by decide +kernel
theorem dX3_countLike_4 : decode cX3_countLike 4 = .ok (.iload_n 3, 1) := by decide +kernel
theorem dX3_countLike_5 : decode cX3_countLike 5 = .ok (.aload_n 0, 1) := by decide +kernel
theorem dX3_countLike_6 : decode cX3_countLike 6 = .ok (.getfield 10, 3) := by decide +kernel
theorem dX3_countLike_9 : decode cX3_countLike 9 = .ok (.invokevirtual 80, 3) := by decide +kernel
theorem dX3_countLike_12 : decode cX3_countLike 12 = .ok (.if_icmp .ge 62, 3) := by decide +kernel
theorem dX3_countLike_15 : decode cX3_countLike 15 = .ok (.aload_n 0, 1) := by decide +kernel
theorem dX3_countLike_16 : decode cX3_countLike 16 = .ok (.getfield 10, 3) := by decide +kernel
theorem dX3_countLike_19 : decode cX3_countLike 19 = .ok (.iload_n 3, 1) := by decide +kernel
theorem dX3_countLike_20 : decode cX3_countLike 20 = .ok (.invokevirtual 108, 3) := by decide +kernel
theorem dX3_countLike_23 : decode cX3_countLike 23 = .ok (.checkcast 86, 3) := by decide +kernel
theorem dX3_countLike_26 : decode cX3_countLike 26 = .ok (.astore 4, 2) := by decide +kernel
theorem dX3_countLike_28 : decode cX3_countLike 28 = .ok (.aload_n 0, 1) := by decide +kernel
theorem dX3_countLike_29 : decode cX3_countLike 29 = .ok (.aload 4, 2) := by decide +kernel
theorem dX3_countLike_31 : decode cX3_countLike 31 = .ok (.invokevirtual 139, 3) := by decide +kernel
theorem dX3_countLike_34 : decode cX3_countLike 34 = .ok (.ifCond .eq 34, 3) := by decide +kernel
theorem dX3_countLike_37 : decode cX3_countLike 37 = .ok (.aload 4, 2) := by decide +kernel
theorem dX3_countLike_39 : decode cX3_countLike 39 = .ok (.aload_n 1, 1) := by decide +kernel
theorem dX3_countLike_40 : decode cX3_countLike 40 = .ok (.getfield 168, 3) := by decide +kernel
theorem dX3_countLike_43 : decode cX3_countLike 43 = .ok (.aload_n 1, 1) := by decide +kernel
theorem dX3_countLike_44 : decode cX3_countLike 44 = .ok (.getfield 174, 3) := by decide +kernel
theorem dX3_countLike_47 : decode cX3_countLike 47 = .ok (.invokevirtual 214, 3) := by decide +kernel
theorem dX3_countLike_50 : decode cX3_countLike 50 = .ok (.ifCond .eq 18, 3) := by decide +kernel
theorem dX3_countLike_53 : decode cX3_countLike 53 = .ok (.aload 4, 2) := by decide +kernel
theorem dX3_countLike_55 : decode cX3_countLike 55 = .ok (.getfield 171, 3) := by decide +kernel
theorem dX3_countLike_58 : decode cX3_countLike 58 = .ok (.aload_n 1, 1) := by decide +kernel
theorem dX3_countLike_59 : decode cX3_countLike 59 = .ok (.getfield 171, 3) := by decide +kernel
theorem dX3_countLike_62 : decode cX3_countLike 62 = .ok (.if_icmp .ne 6, 3) := by decide +kernel
theorem dX3_countLike_65 : decode cX3_countLike 65 = .ok (.iinc 2 1, 3) := by decide +kernel
theorem dX3_countLike_68 : decode cX3_countLike 68 = .ok (.iinc 3 1, 3) := by decide +kernel
theorem dX3_countLike_71 : decode cX3_countLike 71 = .ok (.goto (-67), 3) := by decide +kernel
theorem dX3_countLike_74 : decode cX3_countLike 74 = .ok (.iload_n 2, 1) := by decide +kernel
theorem dX3_countLike_75 : decode cX3_countLike 75 = .ok (.ireturn, 1) := by decide +kernel
theorem dX3_drawLines_0 : decode cX3_drawLines 0 = .ok (.iconst 0, 1) := by decide +kernel
theorem dX3_drawLines_1 : decode cX3_drawLines 1 = .ok (.istore_n 2, 1) := by decide +kernel
theorem dX3_drawLines_2 : decode cX3_drawLines 2 = .ok (.aload_n 0, 1) := by decide +kernel
theorem dX3_drawLines_3 : decode cX3_drawLines 3 = .ok (.iload_n 1, 1) := by decide +kernel
theorem dX3_drawLines_4 : decode cX3_drawLines 4 = .ok (.iconst 0, 1) := by decide +kernel
theorem dX3_drawLines_5 : decode cX3_drawLines 5 = .ok (.invokevirtual 184, 3) := by decide +kernel
theorem dX3_drawLines_8 : decode cX3_drawLines 8 = .ok (.istore_n 3, 1) := by decide +kernel
theorem dX3_drawLines_9 : decode cX3_drawLines 9 = .ok (.iconst 0, 1) := by decide +kernel
theorem dX3_drawLines_10 : decode cX3_drawLines 10 = .ok (.istore 4, 2) := by decide +kernel
theorem dX3_drawLines_12 : decode cX3_drawLines 12 = .ok (.iload 4, 2) := by decide +kernel
theorem dX3_drawLines_14 : decode cX3_drawLines 14 = .ok (.iconst 1, 1) := by decide +kernel
theorem dX3_drawLines_15 : decode cX3_drawLines 15 = .ok (.iadd, 1) := by decide +kernel
theorem dX3_drawLines_16 : decode cX3_drawLines 16 = .ok (.bipush 10, 2) := by decide +kernel
theorem dX3_drawLines_18 : decode cX3_drawLines 18 = .ok (.if_icmp .ge 47, 3) := by decide +kernel
theorem dX3_drawLines_21 : decode cX3_drawLines 21 = .ok (.aload_n 0, 1) := by decide +kernel
theorem dX3_drawLines_22 : decode cX3_drawLines 22 = .ok (.iload_n 1, 1) := by decide +kernel
theorem dX3_drawLines_23 : decode cX3_drawLines 23 = .ok (.iload 4, 2) := by decide +kernel
theorem dX3_drawLines_25 : decode cX3_drawLines 25 = .ok (.iconst 1, 1) := by decide +kernel
theorem dX3_drawLines_26 : decode cX3_drawLines 26 = .ok (.iadd, 1) := by decide +kernel
theorem dX3_drawLines_27 : decode cX3_drawLines 27 = .ok (.invokevirtual 184, 3) := by decide +kernel
theorem dX3_drawLines_30 : decode cX3_drawLines 30 = .ok (.istore 5, 2) := by decide +kernel
theorem dX3_drawLines_32 : decode cX3_drawLines 32 = .ok (.iload_n 3, 1) := by decide +kernel
theorem dX3_drawLines_33 : decode cX3_drawLines 33 = .ok (.iconst (-1), 1) := by decide +kernel
theorem dX3_drawLines_34 : decode cX3_drawLines 34 = .ok (.if_icmp .eq 22, 3) := by decide +kernel
theorem dX3_drawLines_37 : decode cX3_drawLines 37 = .ok (.iload 5, 2) := by decide +kernel
theorem dX3_drawLines_39 : decode cX3_drawLines 39 = .ok (.iconst (-1), 1) := by decide +kernel
theorem dX3_drawLines_40 : decode cX3_drawLines 40 = .ok (.if_icmp .eq 16, 3) := by decide +kernel
theorem dX3_drawLines_43 : decode cX3_drawLines 43 = .ok (.iload_n 3, 1) := by decide +kernel
theorem dX3_drawLines_44 : decode cX3_drawLines 44 = .ok (.iload 5, 2) := by decide +kernel
theorem dX3_drawLines_46 : decode cX3_drawLines 46 = .ok (.if_icmp .eq 10, 3) := by decide +kernel
theorem dX3_drawLines_49 : decode cX3_drawLines 49 = .ok (.iload_n 2, 1) := by decide +kernel
theorem dX3_drawLines_50 : decode cX3_drawLines 50 = .ok (.iconst 1, 1) := by decide +kernel
theorem dX3_drawLines_51 : decode cX3_drawLines 51 = .ok (.iload 4, 2) := by decide +kernel
theorem dX3_drawLines_53 : decode cX3_drawLines 53 = .ok (.ishl, 1) := by decide +kernel
theorem dX3_drawLines_54 : decode cX3_drawLines 54 = .ok (.ior, 1) := by decide +kernel
theorem dX3_drawLines_55 : decode cX3_drawLines 55 = .ok (.istore_n 2, 1) := by decide +kernel
theorem dX3_drawLines_56 : decode cX3_drawLines 56 = .ok (.iload 5, 2) := by decide +kernel
theorem dX3_drawLines_58 : decode cX3_drawLines 58 = .ok (.istore_n 3, 1) := by decide +kernel
theorem dX3_drawLines_59 : decode cX3_drawLines 59 = .ok (.iinc 4 1, 3) := by decide +kernel
theorem dX3_drawLines_62 : decode cX3_drawLines 62 = .ok (.goto (-50), 3) := by decide +kernel
theorem dX3_drawLines_65 : decode cX3_drawLines 65 = .ok (.iload_n 2, 1) := by decide +kernel
theorem dX3_drawLines_66 : decode cX3_drawLines 66 = .ok (.ireturn, 1) := by decide +kernel
theorem dJ13_bitCount_95d88_0 : decode cJ13_bitCount_95d88 0 = .ok (.lload_n 0, 1) := by decide +kernel
theorem dJ13_bitCount_95d88_1 : decode cJ13_bitCount_95d88 1 = .ok (.lload_n 0, 1) := by decide +kernel
theorem dJ13_bitCount_95d88_2 : decode cJ13_bitCount_95d88 2 = .ok (.iconst 1, 1) := by decide +kernel
theorem dJ13_bitCount_95d88_3 : decode cJ13_bitCount_95d88 3 = .ok (.lushr, 1) := by decide +kernel
theorem dJ13_bitCount_95d88_4 : decode cJ13_bitCount_95d88 4 = .ok (.ldc2_w 314, 3) := by decide +kernel
theorem dJ13_bitCount_95d88_7 : decode cJ13_bitCount_95d88 7 = .ok (.land, 1) := by decide +kernel
theorem dJ13_bitCount_95d88_8 : decode cJ13_bitCount_95d88 8 = .ok (.lsub, 1) := by decide +kernel
theorem dJ13_bitCount_95d88_9 : decode cJ13_bitCount_95d88 9 = .ok (.lstore_n 0, 1) := by decide +kernel
theorem dJ13_bitCount_95d88_10 : decode cJ13_bitCount_95d88 10 = .ok (.lload_n 0, 1) := by decide +kernel
theorem dJ13_bitCount_95d88_11 : decode cJ13_bitCount_95d88 11 = .ok (.ldc2_w 316, 3) := by decide +kernel
theorem dJ13_bitCount_95d88_14 : decode cJ13_bitCount_95d88 14 = .ok (.land, 1) := by decide +kernel
theorem dJ13_bitCount_95d88_15 : decode cJ13_bitCount_95d88 15 = .ok (.lload_n 0, 1) := by decide +kernel
theorem dJ13_bitCount_95d88_16 : decode cJ13_bitCount_95d88 16 = .ok (.iconst 2, 1) := by decide +kernel
theorem dJ13_bitCount_95d88_17 : decode cJ13_bitCount_95d88 17 = .ok (.lushr, 1) := by decide +kernel
theorem dJ13_bitCount_95d88_18 : decode cJ13_bitCount_95d88 18 = .ok (.ldc2_w 316, 3) := by decide +kernel
theorem dJ13_bitCount_95d88_21 : decode cJ13_bitCount_95d88 21 = .ok (.land, 1) := by decide +kernel
theorem dJ13_bitCount_95d88_22 : decode cJ13_bitCount_95d88 22 = .ok (.ladd, 1) := by decide +kernel
theorem dJ13_bitCount_95d88_23 : decode cJ13_bitCount_95d88 23 = .ok (.lstore_n 0, 1) := by decide +kernel
theorem dJ13_bitCount_95d88_24 : decode cJ13_bitCount_95d88 24 = .ok (.lload_n 0, 1) := by decide +kernel
theorem dJ13_bitCount_95d88_25 : decode cJ13_bitCount_95d88 25 = .ok (.lload_n 0, 1) := by decide +kernel
theorem dJ13_bitCount_95d88_26 : decode cJ13_bitCount_95d88 26 = .ok (.iconst 4, 1) := by decide +kernel
theorem dJ13_bitCount_95d88_27 : decode cJ13_bitCount_95d88 27 = .ok (.lushr, 1) := by decide +kernel
theorem dJ13_bitCount_95d88_28 : decode cJ13_bitCount_95d88 28 = .ok (.ladd, 1) := by decide +kernel
theorem dJ13_bitCount_95d88_29 : decode cJ13_bitCount_95d88 29 = .ok (.ldc2_w 318, 3) := by decide +kernel
theorem dJ13_bitCount_95d88_32 : decode cJ13_bitCount_95d88 32 = .ok (.land, 1) := by decide +kernel
theorem dJ13_bitCount_95d88_33 : decode cJ13_bitCount_95d88 33 = .ok (.lstore_n 0, 1) := by decide +kernel
theorem dJ13_bitCount_95d88_34 : decode cJ13_bitCount_95d88 34 = .ok (.lload_n 0, 1) := by decide +kernel
theorem dJ13_bitCount_95d88_35 : decode cJ13_bitCount_95d88 35 = .ok (.lload_n 0, 1) := by decide +kernel
theorem dJ13_bitCount_95d88_36 : decode cJ13_bitCount_95d88 36 = .ok (.bipush 8, 2) := by decide +kernel
theorem dJ13_bitCount_95d88_38 : decode cJ13_bitCount_95d88 38 = .ok (.lushr, 1) := by decide +kernel
theorem dJ13_bitCount_95d88_39 : decode cJ13_bitCount_95d88 39 = .ok (.ladd, 1) := by decide +kernel
theorem dJ13_bitCount_95d88_40 : decode cJ13_bitCount_95d88 40 = .ok (.lstore_n 0, 1) := by decide +kernel
theorem dJ13_bitCount_95d88_41 : decode cJ13_bitCount_95d88 41 = .ok (.lload_n 0, 1) := by decide +kernel
theorem dJ13_bitCount_95d88_42 : decode cJ13_bitCount_95d88 42 = .ok (.lload_n 0, 1) := by decide +kernel
theorem dJ13_bitCount_95d88_43 : decode cJ13_bitCount_95d88 43 = .ok (.bipush 16, 2) := by decide +kernel
theorem dJ13_bitCount_95d88_45 : decode cJ13_bitCount_95d88 45 = .ok (.lushr, 1) := by decide +kernel
theorem dJ13_bitCount_95d88_46 : decode cJ13_bitCount_95d88 46 = .ok (.ladd, 1) := by decide +kernel
theorem dJ13_bitCount_95d88_47 : decode cJ13_bitCount_95d88 47 = .ok (.lstore_n 0, 1) := by decide +kernel
theorem dJ13_bitCount_95d88_48 : decode cJ13_bitCount_95d88 48 = .ok (.lload_n 0, 1) := by decide +kernel
theorem dJ13_bitCount_95d88_49 : decode cJ13_bitCount_95d88 49 = .ok (.lload_n 0, 1) := by decide +kernel
theorem dJ13_bitCount_95d88_50 : decode cJ13_bitCount_95d88 50 = .ok (.bipush 32, 2) := by decide +kernel
theorem dJ13_bitCount_95d88_52 : decode cJ13_bitCount_95d88 52 = .ok (.lushr, 1) := by decide +kernel
theorem dJ13_bitCount_95d88_53 : decode cJ13_bitCount_95d88 53 = .ok (.ladd, 1) := by decide +kernel
theorem dJ13_bitCount_95d88_54 : decode cJ13_bitCount_95d88 54 = .ok (.lstore_n 0, 1) := by decide +kernel
theorem dJ13_bitCount_95d88_55 : decode cJ13_bitCount_95d88 55 = .ok (.lload_n 0, 1) := by decide +kernel
theorem dJ13_bitCount_95d88_56 : decode cJ13_bitCount_95d88 56 = .ok (.l2i, 1) := by decide +kernel
theorem dJ13_bitCount_95d88_57 : decode cJ13_bitCount_95d88 57 = .ok (.bipush 127, 2) := by decide +kernel
theorem dJ13_bitCount_95d88_59 : decode cJ13_bitCount_95d88 59 = .ok (.iand, 1) := by decide +kernel
theorem dJ13_bitCount_95d88_60 : decode cJ13_bitCount_95d88 60 = .ok (.ireturn, 1) := by decide +kernel
theorem dJ9_max_7cf53_0 : decode cJ9_max_7cf53 0 = .ok (.iload_n 0, 1) := by decide +kernel
theorem dJ9_max_7cf53_1 : decode cJ9_max_7cf53 1 = .ok (.iload_n 1, 1) := by decide +kernel
theorem dJ9_max_7cf53_2 : decode cJ9_max_7cf53 2 = .ok (.if_icmp .lt 7, 3) := by decide +kernel
theorem dJ9_max_7cf53_5 : decode cJ9_max_7cf53 5 = .ok (.iload_n 0, 1) := by decide +kernel
theorem dJ9_max_7cf53_6 : decode cJ9_max_7cf53 6 = .ok (.goto 4, 3) := by decide +kernel
theorem dJ9_max_7cf53_9 : decode cJ9_max_7cf53 9 = .ok (.iload_n 1, 1) := by decide +kernel
theorem dJ9_max_7cf53_10 : decode cJ9_max_7cf53 10 = .ok (.ireturn, 1) := by decide +kernel
theorem dJ9_min_7cf53_0 : decode cJ9_min_7cf53 0 = .ok (.iload_n 0, 1) := by decide +kernel
theorem dJ9_min_7cf53_1 : decode cJ9_min_7cf53 1 = .ok (.iload_n 1, 1) := by decide +kernel
theorem dJ9_min_7cf53_2 : decode cJ9_min_7cf53 2 = .ok (.if_icmp .gt 7, 3) := by decide +kernel
theorem dJ9_min_7cf53_5 : decode cJ9_min_7cf53 5 = .ok (.iload_n 0, 1) := by decide +kernel
theorem dJ9_min_7cf53_6 : decode cJ9_min_7cf53 6 = .ok (.goto 4, 3) := by decide +kernel
theorem dJ9_min_7cf53_9 : decode cJ9_min_7cf53 9 = .ok (.iload_n 1, 1) := by decide +kernel
theorem dJ9_min_7cf53_10 : decode cJ9_min_7cf53 10 = .ok (.ireturn, 1) := by decide +kernel
theorem dJxa1e45_init_da8c8_0 : decode cJxa1e45_init_da8c8 0 = .ok (.aload_n 0, 1) := by decide +kernel
theorem dJxa1e45_init_da8c8_1 : decode cJxa1e45_init_da8c8 1 = .ok (.invokespecial 1, 3) := by decide +kernel
theorem dJxa1e45_init_da8c8_4 : decode cJxa1e45_init_da8c8 4 = .ok (.return_, 1) := by decide +kernel
theorem dJxc12de_init_da8c8_0 : decode cJxc12de_init_da8c8 0 = .ok (.aload_n 0, 1) := by decide +kernel
theorem dJxc12de_init_da8c8_1 : decode cJxc12de_init_da8c8 1 = .ok (.invokespecial 1, 3) := by decide +kernel
theorem dJxc12de_init_da8c8_4 : decode cJxc12de_init_da8c8 4 = .ok (.aload_n 0, 1) := by decide +kernel
theorem dJxc12de_init_da8c8_5 : decode cJxc12de_init_da8c8 5 = .ok (.iconst 0, 1) := by decide +kernel
theorem dJxc12de_init_da8c8_6 : decode cJxc12de_init_da8c8 6 = .ok (.putfield 7, 3) := by decide +kernel
theorem dJxc12de_init_da8c8_9 : decode cJxc12de_init_da8c8 9 = .ok (.return_, 1) := by decide +kernel
theorem dJx4a65c_init_da8c8_0 : decode cJx4a65c_init_da8c8 0 = .ok (.aload_n 0, 1) := by decide +kernel
theorem dJx4a65c_init_da8c8_1 : decode cJx4a65c_init_da8c8 1 = .ok (.invokespecial 1, 3) := by decide +kernel
theorem dJx4a65c_init_da8c8_4 : decode cJx4a65c_init_da8c8 4 = .ok (.aload_n 0, 1) := by decide +kernel
theorem dJx4a65c_init_da8c8_5 : decode cJx4a65c_init_da8c8 5 = .ok (.getstatic 39, 3) := by decide +kernel
theorem dJx4a65c_init_da8c8_8 : decode cJx4a65c_init_da8c8 8 = .ok (.putfield 9, 3) := by decide +kernel
theorem dJx4a65c_init_da8c8_11 : decode cJx4a65c_init_da8c8 11 = .ok (.return_, 1) := by decide +kernel
theorem dJx4a65c_grow_92f84_0 : decode cJx4a65c_grow_92f84 0 = .ok (.aload_n 0, 1) := by decide +kernel
theorem dJx4a65c_grow_92f84_1 : decode cJx4a65c_grow_92f84 1 = .ok (.getfield 9, 3) := by decide +kernel
theorem dJx4a65c_grow_92f84_4 : decode cJx4a65c_grow_92f84 4 = .ok (.arraylength, 1) := by decide +kernel
theorem dJx4a65c_grow_92f84_5 : decode cJx4a65c_grow_92f84 5 = .ok (.istore_n 2, 1) := by decide +kernel
theorem dJx4a65c_grow_92f84_6 : decode cJx4a65c_grow_92f84 6 = .ok (.iload_n 2, 1) := by decide +kernel
theorem dJx4a65c_grow_92f84_7 : decode cJx4a65c_grow_92f84 7 = .ok (.ifCond .gt 13, 3) := by decide +kernel
theorem dJx4a65c_grow_92f84_10 : decode cJx4a65c_grow_92f84 10 = .ok (.aload_n 0, 1) := by decide +kernel
theorem dJx4a65c_grow_92f84_11 : decode cJx4a65c_grow_92f84 11 = .ok (.getfield 9, 3) := by decide +kernel
theorem dJx4a65c_grow_92f84_14 : decode cJx4a65c_grow_92f84 14 = .ok (.getstatic 39, 3) := by decide +kernel
theorem dJx4a65c_grow_92f84_17 : decode cJx4a65c_grow_92f84 17 = .ok (.if_acmp .eq 28, 3) := by decide +kernel
theorem dJx4a65c_grow_92f84_20 : decode cJx4a65c_grow_92f84 20 = .ok (.iload_n 2, 1) := by decide +kernel
theorem dJx4a65c_grow_92f84_21 : decode cJx4a65c_grow_92f84 21 = .ok (.iload_n 1, 1) := by decide +kernel
theorem dJx4a65c_grow_92f84_22 : decode cJx4a65c_grow_92f84 22 = .ok (.iload_n 2, 1) := by decide +kernel
theorem dJx4a65c_grow_92f84_23 : decode cJx4a65c_grow_92f84 23 = .ok (.isub, 1) := by decide +kernel
theorem dJx4a65c_grow_92f84_24 : decode cJx4a65c_grow_92f84 24 = .ok (.iload_n 2, 1) := by decide +kernel
theorem dJx4a65c_grow_92f84_25 : decode cJx4a65c_grow_92f84 25 = .ok (.iconst 1, 1) := by decide +kernel
theorem dJx4a65c_grow_92f84_26 : decode cJx4a65c_grow_92f84 26 = .ok (.ishr, 1) := by decide +kernel
theorem dJx4a65c_grow_92f84_27 : decode cJx4a65c_grow_92f84 27 = .ok (.invokestatic 73, 3) := by decide +kernel
theorem dJx4a65c_grow_92f84_30 : decode cJx4a65c_grow_92f84 30 = .ok (.istore_n 3, 1) := by decide +kernel
theorem dJx4a65c_grow_92f84_31 : decode cJx4a65c_grow_92f84 31 = .ok (.aload_n 0, 1) := by decide +kernel
theorem dJx4a65c_grow_92f84_32 : decode cJx4a65c_grow_92f84 32 = .ok (.aload_n 0, 1) := by decide +kernel
theorem dJx4a65c_grow_92f84_33 : decode cJx4a65c_grow_92f84 33 = .ok (.getfield 9, 3) := by decide +kernel
theorem dJx4a65c_grow_92f84_36 : decode cJx4a65c_grow_92f84 36 = .ok (.iload_n 3, 1) := by decide +kernel
theorem dJx4a65c_grow_92f84_37 : decode cJx4a65c_grow_92f84 37 = .ok (.invokestatic 66, 3) := by decide +kernel
theorem dJx4a65c_grow_92f84_40 : decode cJx4a65c_grow_92f84 40 = .ok (.dup_x1, 1) := by decide +kernel
theorem dJx4a65c_grow_92f84_41 : decode cJx4a65c_grow_92f84 41 = .ok (.putfield 9, 3) := by decide +kernel
theorem dJx4a65c_grow_92f84_44 : decode cJx4a65c_grow_92f84 44 = .ok (.areturn, 1) := by decide +kernel
theorem dJx4a65c_grow_92f84_45 : decode cJx4a65c_grow_92f84 45 = .ok (.aload_n 0, 1) := by decide +kernel
theorem dJx4a65c_grow_92f84_46 : decode cJx4a65c_grow_92f84 46 = .ok (.bipush 10, 2) := by decide +kernel
theorem dJx4a65c_grow_92f84_48 : decode cJx4a65c_grow_92f84 48 = .ok (.iload_n 1, 1) := by decide +kernel
theorem dJx4a65c_grow_92f84_49 : decode cJx4a65c_grow_92f84 49 = .ok (.invokestatic 79, 3) := by decide +kernel
theorem dJx4a65c_grow_92f84_52 : decode cJx4a65c_grow_92f84 52 = .ok (.anewarray 7, 3) := by decide +kernel
theorem dJx4a65c_grow_92f84_55 : decode cJx4a65c_grow_92f84 55 = .ok (.dup_x1, 1) := by decide +kernel
theorem dJx4a65c_grow_92f84_56 : decode cJx4a65c_grow_92f84 56 = .ok (.putfield 9, 3) := by decide +kernel
theorem dJx4a65c_grow_92f84_59 : decode cJx4a65c_grow_92f84 59 = .ok (.areturn, 1) := by decide +kernel
theorem dJx4a65c_grow_d5877_0 : decode cJx4a65c_grow_d5877 0 = .ok (.aload_n 0, 1) := by decide +kernel
theorem dJx4a65c_grow_d5877_1 : decode cJx4a65c_grow_d5877 1 = .ok (.aload_n 0, 1) := by decide +kernel
theorem dJx4a65c_grow_d5877_2 : decode cJx4a65c_grow_d5877 2 = .ok (.getfield 48, 3) := by decide +kernel
theorem dJx4a65c_grow_d5877_5 : decode cJx4a65c_grow_d5877 5 = .ok (.iconst 1, 1) := by decide +kernel
theorem dJx4a65c_grow_d5877_6 : decode cJx4a65c_grow_d5877 6 = .ok (.iadd, 1) := by decide +kernel
theorem dJx4a65c_grow_d5877_7 : decode cJx4a65c_grow_d5877 7 = .ok (.invokevirtual 69, 3) := by decide +kernel
theorem dJx4a65c_grow_d5877_10 : decode cJx4a65c_grow_d5877 10 = .ok (.areturn, 1) := by decide +kernel
theorem dJx4a65c_size_8abf5_0 : decode cJx4a65c_size_8abf5 0 = .ok (.aload_n 0, 1) := by decide +kernel
theorem dJx4a65c_size_8abf5_1 : decode cJx4a65c_size_8abf5 1 = .ok (.getfield 48, 3) := by decide +kernel
theorem dJx4a65c_size_8abf5_4 : decode cJx4a65c_size_8abf5 4 = .ok (.ireturn, 1) := by decide +kernel
theorem dJx4a65c_elementData_915e3_0 : decode cJx4a65c_elementData_915e3 0 = .ok (.aload_n 0, 1) := by decide +kernel
theorem dJx4a65c_elementData_915e3_1 : decode cJx4a65c_elementData_915e3 1 = .ok (.getfield 9, 3) := by decide +kernel
theorem dJx4a65c_elementData_915e3_4 : decode cJx4a65c_elementData_915e3 4 = .ok (.iload_n 1, 1) := by decide +kernel
theorem dJx4a65c_elementData_915e3_5 : decode cJx4a65c_elementData_915e3 5 = .ok (.aaload, 1) := by decide +kernel
theorem dJx4a65c_elementData_915e3_6 : decode cJx4a65c_elementData_915e3 6 = .ok (.areturn, 1) := by decide +kernel
theorem dJx4a65c_get_915e3_0 : decode cJx4a65c_get_915e3 0 = .ok (.iload_n 1, 1) := by decide +kernel
theorem dJx4a65c_get_915e3_1 : decode cJx4a65c_get_915e3 1 = .ok (.aload_n 0, 1) := by decide +kernel
theorem dJx4a65c_get_915e3_2 : decode cJx4a65c_get_915e3 2 = .ok (.getfield 48, 3) := by decide +kernel
theorem dJx4a65c_get_915e3_5 : decode cJx4a65c_get_915e3 5 = .ok (.invokestatic 118, 3) := by decide +kernel
theorem dJx4a65c_get_915e3_8 : decode cJx4a65c_get_915e3 8 = .ok (.pop, 1) := by decide +kernel
theorem dJx4a65c_get_915e3_9 : decode cJx4a65c_get_915e3 9 = .ok (.aload_n 0, 1) := by decide +kernel
theorem dJx4a65c_get_915e3_10 : decode cJx4a65c_get_915e3 10 = .ok (.iload_n 1, 1) := by decide +kernel
theorem dJx4a65c_get_915e3_11 : decode cJx4a65c_get_915e3 11 = .ok (.invokevirtual 123, 3) := by decide +kernel
theorem dJx4a65c_get_915e3_14 : decode cJx4a65c_get_915e3 14 = .ok (.areturn, 1) := by decide +kernel
theorem dJx4a65c_add_72be8_0 : decode cJx4a65c_add_72be8 0 = .ok (.iload_n 3, 1) := by decide +kernel
theorem dJx4a65c_add_72be8_1 : decode cJx4a65c_add_72be8 1 = .ok (.aload_n 2, 1) := by decide +kernel
theorem dJx4a65c_add_72be8_2 : decode cJx4a65c_add_72be8 2 = .ok (.arraylength, 1) := by decide +kernel
theorem dJx4a65c_add_72be8_3 : decode cJx4a65c_add_72be8 3 = .ok (.if_icmp .ne 8, 3) := by decide +kernel
theorem dJx4a65c_add_72be8_6 : decode cJx4a65c_add_72be8 6 = .ok (.aload_n 0, 1) := by decide +kernel
theorem dJx4a65c_add_72be8_7 : decode cJx4a65c_add_72be8 7 = .ok (.invokevirtual 129, 3) := by decide +kernel
theorem dJx4a65c_add_72be8_10 : decode cJx4a65c_add_72be8 10 = .ok (.astore_n 2, 1) := by decide +kernel
theorem dJx4a65c_add_72be8_11 : decode cJx4a65c_add_72be8 11 = .ok (.aload_n 2, 1) := by decide +kernel
theorem dJx4a65c_add_72be8_12 : decode cJx4a65c_add_72be8 12 = .ok (.iload_n 3, 1) := by decide +kernel
theorem dJx4a65c_add_72be8_13 : decode cJx4a65c_add_72be8 13 = .ok (.aload_n 1, 1) := by decide +kernel
theorem dJx4a65c_add_72be8_14 : decode cJx4a65c_add_72be8 14 = .ok (.aastore, 1) := by decide +kernel
theorem dJx4a65c_add_72be8_15 : decode cJx4a65c_add_72be8 15 = .ok (.aload_n 0, 1) := by decide +kernel
theorem dJx4a65c_add_72be8_16 : decode cJx4a65c_add_72be8 16 = .ok (.iload_n 3, 1) := by decide +kernel
theorem dJx4a65c_add_72be8_17 : decode cJx4a65c_add_72be8 17 = .ok (.iconst 1, 1) := by decide +kernel
theorem dJx4a65c_add_72be8_18 : decode cJx4a65c_add_72be8 18 = .ok (.iadd, 1) := by decide +kernel
theorem dJx4a65c_add_72be8_19 : decode cJx4a65c_add_72be8 19 = .ok (.putfield 48, 3) := by decide +kernel
theorem dJx4a65c_add_72be8_22 : decode cJx4a65c_add_72be8 22 = .ok (.return_, 1) := by decide +kernel
theorem dJx4a65c_add_9ea2d_0 : decode cJx4a65c_add_9ea2d 0 = .ok (.aload_n 0, 1) := by decide +kernel
theorem dJx4a65c_add_9ea2d_1 : decode cJx4a65c_add_9ea2d 1 = .ok (.dup, 1) := by decide +kernel
theorem dJx4a65c_add_9ea2d_2 : decode cJx4a65c_add_9ea2d 2 = .ok (.getfield 63, 3) := by decide +kernel
theorem dJx4a65c_add_9ea2d_5 : decode cJx4a65c_add_9ea2d 5 = .ok (.iconst 1, 1) := by decide +kernel
theorem dJx4a65c_add_9ea2d_6 : decode cJx4a65c_add_9ea2d 6 = .ok (.iadd, 1) := by decide +kernel
theorem dJx4a65c_add_9ea2d_7 : decode cJx4a65c_add_9ea2d 7 = .ok (.putfield 63, 3) := by decide +kernel
theorem dJx4a65c_add_9ea2d_10 : decode cJx4a65c_add_9ea2d 10 = .ok (.aload_n 0, 1) := by decide +kernel
theorem dJx4a65c_add_9ea2d_11 : decode cJx4a65c_add_9ea2d 11 = .ok (.aload_n 1, 1) := by decide +kernel
theorem dJx4a65c_add_9ea2d_12 : decode cJx4a65c_add_9ea2d 12 = .ok (.aload_n 0, 1) := by decide +kernel
theorem dJx4a65c_add_9ea2d_13 : decode cJx4a65c_add_9ea2d 13 = .ok (.getfield 9, 3) := by decide +kernel
theorem dJx4a65c_add_9ea2d_16 : decode cJx4a65c_add_9ea2d 16 = .ok (.aload_n 0, 1) := by decide +kernel
theorem dJx4a65c_add_9ea2d_17 : decode cJx4a65c_add_9ea2d 17 = .ok (.getfield 48, 3) := by decide +kernel
theorem dJx4a65c_add_9ea2d_20 : decode cJx4a65c_add_9ea2d 20 = .ok (.invokevirtual 131, 3) := by decide +kernel
theorem dJx4a65c_add_9ea2d_23 : decode cJx4a65c_add_9ea2d 23 = .ok (.iconst 1, 1) := by decide +kernel
theorem dJx4a65c_add_9ea2d_24 : decode cJx4a65c_add_9ea2d 24 = .ok (.ireturn, 1) := by decide +kernel
theorem dJ7_fill_53178_0 : decode cJ7_fill_53178 0 = .ok (.iconst 0, 1) := by decide +kernel
theorem dJ7_fill_53178_1 : decode cJ7_fill_53178 1 = .ok (.istore_n 2, 1) := by decide +kernel
theorem dJ7_fill_53178_2 : decode cJ7_fill_53178 2 = .ok (.aload_n 0, 1) := by decide +kernel
theorem dJ7_fill_53178_3 : decode cJ7_fill_53178 3 = .ok (.arraylength, 1) := by decide +kernel
theorem dJ7_fill_53178_4 : decode cJ7_fill_53178 4 = .ok (.istore_n 3, 1) := by decide +kernel
theorem dJ7_fill_53178_5 : decode cJ7_fill_53178 5 = .ok (.iload_n 2, 1) := by decide +kernel
theorem dJ7_fill_53178_6 : decode cJ7_fill_53178 6 = .ok (.iload_n 3, 1) := by decide +kernel
theorem dJ7_fill_53178_7 : decode cJ7_fill_53178 7 = .ok (.if_icmp .ge 13, 3) := by decide +kernel
theorem dJ7_fill_53178_10 : decode cJ7_fill_53178 10 = .ok (.aload_n 0, 1) := by decide +kernel
theorem dJ7_fill_53178_11 : decode cJ7_fill_53178 11 = .ok (.iload_n 2, 1) := by decide +kernel
theorem dJ7_fill_53178_12 : decode cJ7_fill_53178 12 = .ok (.iload_n 1, 1) := by decide +kernel
theorem dJ7_fill_53178_13 : decode cJ7_fill_53178 13 = .ok (.iastore, 1) := by decide +kernel
theorem dJ7_fill_53178_14 : decode cJ7_fill_53178 14 = .ok (.iinc 2 1, 3) := by decide +kernel
theorem dJ7_fill_53178_17 : decode cJ7_fill_53178 17 = .ok (.goto (-12), 3) := by decide +kernel
theorem dJ7_fill_53178_20 : decode cJ7_fill_53178 20 = .ok (.return_, 1) := by decide +kernel
theorem dJ7_copyOf_1904c_0 : decode cJ7_copyOf_1904c 0 = .ok (.aload_n 0, 1) := by decide +kernel
theorem dJ7_copyOf_1904c_1 : decode cJ7_copyOf_1904c 1 = .ok (.iload_n 1, 1) := by decide +kernel
theorem dJ7_copyOf_1904c_2 : decode cJ7_copyOf_1904c 2 = .ok (.aload_n 0, 1) := by decide +kernel
theorem dJ7_copyOf_1904c_3 : decode cJ7_copyOf_1904c 3 = .ok (.invokevirtual 86, 3) := by decide +kernel
theorem dJ7_copyOf_1904c_6 : decode cJ7_copyOf_1904c 6 = .ok (.invokestatic 300, 3) := by decide +kernel
theorem dJ7_copyOf_1904c_9 : decode cJ7_copyOf_1904c 9 = .ok (.areturn, 1) := by decide +kernel
theorem dJ7_copyOf_6403c_0 : decode cJ7_copyOf_6403c 0 = .ok (.aload_n 2, 1) := by decide +kernel
theorem dJ7_copyOf_6403c_1 : decode cJ7_copyOf_6403c 1 = .ok (.ldc 110, 2) := by decide +kernel
theorem dJ7_copyOf_6403c_3 : decode cJ7_copyOf_6403c 3 = .ok (.if_acmp .ne 10, 3) := by decide +kernel
theorem dJ7_copyOf_6403c_6 : decode cJ7_copyOf_6403c 6 = .ok (.iload_n 1, 1) := by decide +kernel
theorem dJ7_copyOf_6403c_7 : decode cJ7_copyOf_6403c 7 = .ok (.anewarray 2, 3) := by decide +kernel
theorem dJ7_copyOf_6403c_10 : decode cJ7_copyOf_6403c 10 = .ok (.goto 14, 3) := by decide +kernel
theorem dJ7_copyOf_6403c_13 : decode cJ7_copyOf_6403c 13 = .ok (.aload_n 2, 1) := by decide +kernel
theorem dJ7_copyOf_6403c_14 : decode cJ7_copyOf_6403c 14 = .ok (.invokevirtual 90, 3) := by decide +kernel
theorem dJ7_copyOf_6403c_17 : decode cJ7_copyOf_6403c 17 = .ok (.iload_n 1, 1) := by decide +kernel
theorem dJ7_copyOf_6403c_18 : decode cJ7_copyOf_6403c 18 = .ok (.invokestatic 95, 3) := by decide +kernel
theorem dJ7_copyOf_6403c_21 : decode cJ7_copyOf_6403c 21 = .ok (.checkcast 110, 3) := by decide +kernel
theorem dJ7_copyOf_6403c_24 : decode cJ7_copyOf_6403c 24 = .ok (.astore_n 3, 1) := by decide +kernel
theorem dJ7_copyOf_6403c_25 : decode cJ7_copyOf_6403c 25 = .ok (.aload_n 0, 1) := by decide +kernel
theorem dJ7_copyOf_6403c_26 : decode cJ7_copyOf_6403c 26 = .ok (.iconst 0, 1) := by decide +kernel
theorem dJ7_copyOf_6403c_27 : decode cJ7_copyOf_6403c 27 = .ok (.aload_n 3, 1) := by decide +kernel
theorem dJ7_copyOf_6403c_28 : decode cJ7_copyOf_6403c 28 = .ok (.iconst 0, 1) := by decide +kernel
theorem dJ7_copyOf_6403c_29 : decode cJ7_copyOf_6403c 29 = .ok (.aload_n 0, 1) := by decide +kernel
theorem dJ7_copyOf_6403c_30 : decode cJ7_copyOf_6403c 30 = .ok (.arraylength, 1) := by decide +kernel
theorem dJ7_copyOf_6403c_31 : decode cJ7_copyOf_6403c 31 = .ok (.iload_n 1, 1) := by decide +kernel
theorem dJ7_copyOf_6403c_32 : decode cJ7_copyOf_6403c 32 = .ok (.invokestatic 304, 3) := by decide +kernel
theorem dJ7_copyOf_6403c_35 : decode cJ7_copyOf_6403c 35 = .ok (.invokestatic 150, 3) := by decide +kernel
theorem dJ7_copyOf_6403c_38 : decode cJ7_copyOf_6403c 38 = .ok (.aload_n 3, 1) := by decide +kernel
theorem dJ7_copyOf_6403c_39 : decode cJ7_copyOf_6403c 39 = .ok (.areturn, 1) := by decide +kernel
theorem dJ15_checkIndex_7cf53_0 : decode cJ15_checkIndex_7cf53 0 = .ok (.iload_n 0, 1) := by decide +kernel
theorem dJ15_checkIndex_7cf53_1 : decode cJ15_checkIndex_7cf53 1 = .ok (.iload_n 1, 1) := by decide +kernel
theorem dJ15_checkIndex_7cf53_2 : decode cJ15_checkIndex_7cf53 2 = .ok (.aconst_null, 1) := by decide +kernel
theorem dJ15_checkIndex_7cf53_3 : decode cJ15_checkIndex_7cf53 3 = .ok (.invokestatic 105, 3) := by decide +kernel
theorem dJ15_checkIndex_7cf53_6 : decode cJ15_checkIndex_7cf53 6 = .ok (.ireturn, 1) := by decide +kernel
theorem dJ8_newLength_cabcc_0 : decode cJ8_newLength_cabcc 0 = .ok (.iload_n 0, 1) := by decide +kernel
theorem dJ8_newLength_cabcc_1 : decode cJ8_newLength_cabcc 1 = .ok (.iload_n 1, 1) := by decide +kernel
theorem dJ8_newLength_cabcc_2 : decode cJ8_newLength_cabcc 2 = .ok (.iload_n 2, 1) := by decide +kernel
theorem dJ8_newLength_cabcc_3 : decode cJ8_newLength_cabcc 3 = .ok (.invokestatic 194, 3) := by decide +kernel
theorem dJ8_newLength_cabcc_6 : decode cJ8_newLength_cabcc 6 = .ok (.iadd, 1) := by decide +kernel
theorem dJ8_newLength_cabcc_7 : decode cJ8_newLength_cabcc 7 = .ok (.istore_n 3, 1) := by decide +kernel
theorem dJ8_newLength_cabcc_8 : decode cJ8_newLength_cabcc 8 = .ok (.iconst 0, 1) := by decide +kernel
theorem dJ8_newLength_cabcc_9 : decode cJ8_newLength_cabcc 9 = .ok (.iload_n 3, 1) := by decide +kernel
theorem dJ8_newLength_cabcc_10 : decode cJ8_newLength_cabcc 10 = .ok (.if_icmp .ge 11, 3) := by decide +kernel
theorem dJ8_newLength_cabcc_13 : decode cJ8_newLength_cabcc 13 = .ok (.iload_n 3, 1) := by decide +kernel
theorem dJ8_newLength_cabcc_14 : decode cJ8_newLength_cabcc 14 = .ok (.ldc 200, 2) := by decide +kernel
theorem dJ8_newLength_cabcc_16 : decode cJ8_newLength_cabcc 16 = .ok (.if_icmp .gt 5, 3) := by decide +kernel
theorem dJ8_newLength_cabcc_19 : decode cJ8_newLength_cabcc 19 = .ok (.iload_n 3, 1) := by decide +kernel
theorem dJ8_newLength_cabcc_20 : decode cJ8_newLength_cabcc 20 = .ok (.ireturn, 1) := by decide +kernel
theorem dJ8_newLength_cabcc_21 : decode cJ8_newLength_cabcc 21 = .ok (.iload_n 0, 1) := by decide +kernel
theorem dJ8_newLength_cabcc_22 : decode cJ8_newLength_cabcc 22 = .ok (.iload_n 1, 1) := by decide +kernel
theorem dJ8_newLength_cabcc_23 : decode cJ8_newLength_cabcc 23 = .ok (.invokestatic 201, 3) := by decide +kernel
theorem dJ8_newLength_cabcc_26 : decode cJ8_newLength_cabcc 26 = .ok (.ireturn, 1) := by decide +kernel
theorem dJ8_hugeLength_7cf53_0 : decode cJ8_hugeLength_7cf53 0 = .ok (.iload_n 0, 1) := by decide +kernel
theorem dJ8_hugeLength_7cf53_1 : decode cJ8_hugeLength_7cf53 1 = .ok (.iload_n 1, 1) := by decide +kernel
theorem dJ8_hugeLength_7cf53_2 : decode cJ8_hugeLength_7cf53 2 = .ok (.iadd, 1) := by decide +kernel
theorem dJ8_hugeLength_7cf53_3 : decode cJ8_hugeLength_7cf53 3 = .ok (.istore_n 2, 1) := by decide +kernel
theorem dJ8_hugeLength_7cf53_4 : decode cJ8_hugeLength_7cf53 4 = .ok (.iload_n 2, 1) := by decide +kernel
theorem dJ8_hugeLength_7cf53_5 : decode cJ8_hugeLength_7cf53 5 = .ok (.ifCond .ge 44, 3) := by decide +kernel
theorem dJ8_hugeLength_7cf53_8 : decode cJ8_hugeLength_7cf53 8 = .ok (.new 204, 3) := by decide +kernel
theorem dJ8_hugeLength_7cf53_11 : decode cJ8_hugeLength_7cf53 11 = .ok (.dup, 1) := by decide +kernel
theorem dJ8_hugeLength_7cf53_12 : decode cJ8_hugeLength_7cf53 12 = .ok (.new 89, 3) := by decide +kernel
theorem dJ8_hugeLength_7cf53_15 : decode cJ8_hugeLength_7cf53 15 = .ok (.dup, 1) := by decide +kernel
theorem dJ8_hugeLength_7cf53_16 : decode cJ8_hugeLength_7cf53 16 = .ok (.invokespecial 91, 3) := by decide +kernel
theorem dJ8_hugeLength_7cf53_19 : decode cJ8_hugeLength_7cf53 19 = .ok (.ldc 206, 2) := by decide +kernel
theorem dJ8_hugeLength_7cf53_21 : decode cJ8_hugeLength_7cf53 21 = .ok (.invokevirtual 94, 3) := by decide +kernel
theorem dJ8_hugeLength_7cf53_24 : decode cJ8_hugeLength_7cf53 24 = .ok (.iload_n 0, 1) := by decide +kernel
theorem dJ8_hugeLength_7cf53_25 : decode cJ8_hugeLength_7cf53 25 = .ok (.invokevirtual 98, 3) := by decide +kernel
theorem dJ8_hugeLength_7cf53_28 : decode cJ8_hugeLength_7cf53 28 = .ok (.ldc 208, 2) := by decide +kernel
theorem dJ8_hugeLength_7cf53_30 : decode cJ8_hugeLength_7cf53 30 = .ok (.invokevirtual 94, 3) := by decide +kernel
theorem dJ8_hugeLength_7cf53_33 : decode cJ8_hugeLength_7cf53 33 = .ok (.iload_n 1, 1) := by decide +kernel
theorem dJ8_hugeLength_7cf53_34 : decode cJ8_hugeLength_7cf53 34 = .ok (.invokevirtual 98, 3) := by decide +kernel
theorem dJ8_hugeLength_7cf53_37 : decode cJ8_hugeLength_7cf53 37 = .ok (.ldc 210, 2) := by decide +kernel
theorem dJ8_hugeLength_7cf53_39 : decode cJ8_hugeLength_7cf53 39 = .ok (.invokevirtual 94, 3) := by decide +kernel
theorem dJ8_hugeLength_7cf53_42 : decode cJ8_hugeLength_7cf53 42 = .ok (.invokevirtual 101, 3) := by decide +kernel
theorem dJ8_hugeLength_7cf53_45 : decode cJ8_hugeLength_7cf53 45 = .ok (.invokespecial 212, 3) := by decide +kernel
theorem dJ8_hugeLength_7cf53_48 : decode cJ8_hugeLength_7cf53 48 = .ok (.athrow, 1) := by decide +kernel
theorem dJ8_hugeLength_7cf53_49 : decode cJ8_hugeLength_7cf53 49 = .ok (.iload_n 2, 1) := by decide +kernel
theorem dJ8_hugeLength_7cf53_50 : decode cJ8_hugeLength_7cf53 50 = .ok (.ldc 200, 2) := by decide +kernel
theorem dJ8_hugeLength_7cf53_52 : decode cJ8_hugeLength_7cf53 52 = .ok (.if_icmp .gt 6, 3) := by decide +kernel
theorem dJ8_hugeLength_7cf53_55 : decode cJ8_hugeLength_7cf53 55 = .ok (.ldc 200, 2) := by decide +kernel
theorem dJ8_hugeLength_7cf53_57 : decode cJ8_hugeLength_7cf53 57 = .ok (.ireturn, 1) := by decide +kernel
theorem dJ8_hugeLength_7cf53_58 : decode cJ8_hugeLength_7cf53 58 = .ok (.iload_n 2, 1) := by decide +kernel
theorem dJ8_hugeLength_7cf53_59 : decode cJ8_hugeLength_7cf53 59 = .ok (.ireturn, 1) := by decide +kernel
theorem dJ3_checkIndex_8e157_0 : decode cJ3_checkIndex_8e157 0 = .ok (.iload_n 0, 1) := by decide +kernel
theorem dJ3_checkIndex_8e157_1 : decode cJ3_checkIndex_8e157 1 = .ok (.ifCond .lt 8, 3) := by decide +kernel
theorem dJ3_checkIndex_8e157_4 : decode cJ3_checkIndex_8e157 4 = .ok (.iload_n 0, 1) := by decide +kernel
theorem dJ3_checkIndex_8e157_5 : decode cJ3_checkIndex_8e157 5 = .ok (.iload_n 1, 1) := by decide +kernel
theorem dJ3_checkIndex_8e157_6 : decode cJ3_checkIndex_8e157 6 = .ok (.if_icmp .lt 10, 3) := by decide +kernel
theorem dJ3_checkIndex_8e157_9 : decode cJ3_checkIndex_8e157 9 = .ok (.aload_n 2, 1) := by decide +kernel
theorem dJ3_checkIndex_8e157_10 : decode cJ3_checkIndex_8e157 10 = .ok (.iload_n 0, 1) := by decide +kernel
theorem dJ3_checkIndex_8e157_11 : decode cJ3_checkIndex_8e157 11 = .ok (.iload_n 1, 1) := by decide +kernel
theorem dJ3_checkIndex_8e157_12 : decode cJ3_checkIndex_8e157 12 = .ok (.invokestatic 95, 3) := by decide +kernel
theorem dJ3_checkIndex_8e157_15 : decode cJ3_checkIndex_8e157 15 = .ok (.athrow, 1) := by decide +kernel
theorem dJ3_checkIndex_8e157_16 : decode cJ3_checkIndex_8e157 16 = .ok (.iload_n 0, 1) := by decide +kernel
theorem dJ3_checkIndex_8e157_17 : decode cJ3_checkIndex_8e157 17 = .ok (.ireturn, 1) := by decide +kernel
