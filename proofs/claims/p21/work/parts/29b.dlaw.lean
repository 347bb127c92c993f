theorem dL_cell_0 : decode cL_cell 0 = .ok (.iload_n 1, 1) := by decide +kernel
theorem dL_cell_1 : decode cL_cell 1 = .ok (.aload_n 0, 1) := by decide +kernel
theorem dL_cell_2 : decode cL_cell 2 = .ok (.arraylength, 1) := by decide +kernel
theorem dL_cell_3 : decode cL_cell 3 = .ok (.if_icmp .ge 9, 3) := by decide +kernel
theorem dL_cell_6 : decode cL_cell 6 = .ok (.aload_n 0, 1) := by decide +kernel
theorem dL_cell_7 : decode cL_cell 7 = .ok (.iload_n 1, 1) := by decide +kernel
theorem dL_cell_8 : decode cL_cell 8 = .ok (.iaload, 1) := by decide +kernel
theorem dL_cell_9 : decode cL_cell 9 = .ok (.goto 13, 3) := by decide +kernel
theorem dL_cell_12 : decode cL_cell 12 = .ok (.ldc 7, 2) := by decide +kernel
theorem dL_cell_14 : decode cL_cell 14 = .ok (.iload_n 1, 1) := by decide +kernel
theorem dL_cell_15 : decode cL_cell 15 = .ok (.bipush 29, 2) := by decide +kernel
theorem dL_cell_17 : decode cL_cell 17 = .ok (.iadd, 1) := by decide +kernel
theorem dL_cell_18 : decode cL_cell 18 = .ok (.imul, 1) := by decide +kernel
theorem dL_cell_19 : decode cL_cell 19 = .ok (.ldc 8, 2) := by decide +kernel
theorem dL_cell_21 : decode cL_cell 21 = .ok (.iadd, 1) := by decide +kernel
theorem dL_cell_22 : decode cL_cell 22 = .ok (.ireturn, 1) := by decide +kernel
theorem dL_low_0 : decode cL_low 0 = .ok (.iload_n 0, 1) := by decide +kernel
theorem dL_low_1 : decode cL_low 1 = .ok (.ldc 9, 2) := by decide +kernel
theorem dL_low_3 : decode cL_low 3 = .ok (.iand, 1) := by decide +kernel
theorem dL_low_4 : decode cL_low 4 = .ok (.iload_n 1, 1) := by decide +kernel
theorem dL_low_5 : decode cL_low 5 = .ok (.irem, 1) := by decide +kernel
theorem dL_low_6 : decode cL_low 6 = .ok (.ireturn, 1) := by decide +kernel
theorem dL_calls_0 : decode cL_calls 0 = .ok (.iload_n 1, 1) := by decide +kernel
theorem dL_calls_1 : decode cL_calls 1 = .ok (.ifCond .ne 11, 3) := by decide +kernel
theorem dL_calls_4 : decode cL_calls 4 = .ok (.aload_n 0, 1) := by decide +kernel
theorem dL_calls_5 : decode cL_calls 5 = .ok (.iload_n 2, 1) := by decide +kernel
theorem dL_calls_6 : decode cL_calls 6 = .ok (.invokevirtual 10, 3) := by decide +kernel
theorem dL_calls_9 : decode cL_calls 9 = .ok (.goto 53, 3) := by decide +kernel
theorem dL_calls_12 : decode cL_calls 12 = .ok (.iload_n 1, 1) := by decide +kernel
theorem dL_calls_13 : decode cL_calls 13 = .ok (.iconst 1, 1) := by decide +kernel
theorem dL_calls_14 : decode cL_calls 14 = .ok (.if_icmp .ne 16, 3) := by decide +kernel
theorem dL_calls_17 : decode cL_calls 17 = .ok (.aload_n 0, 1) := by decide +kernel
theorem dL_calls_18 : decode cL_calls 18 = .ok (.iload_n 2, 1) := by decide +kernel
theorem dL_calls_19 : decode cL_calls 19 = .ok (.iload_n 3, 1) := by decide +kernel
theorem dL_calls_20 : decode cL_calls 20 = .ok (.iload 4, 2) := by decide +kernel
theorem dL_calls_22 : decode cL_calls 22 = .ok (.iload 5, 2) := by decide +kernel
theorem dL_calls_24 : decode cL_calls 24 = .ok (.invokevirtual 16, 3) := by decide +kernel
theorem dL_calls_27 : decode cL_calls 27 = .ok (.goto 35, 3) := by decide +kernel
theorem dL_calls_30 : decode cL_calls 30 = .ok (.iload_n 1, 1) := by decide +kernel
theorem dL_calls_31 : decode cL_calls 31 = .ok (.iconst 2, 1) := by decide +kernel
theorem dL_calls_32 : decode cL_calls 32 = .ok (.if_icmp .ne 11, 3) := by decide +kernel
theorem dL_calls_35 : decode cL_calls 35 = .ok (.aload_n 0, 1) := by decide +kernel
theorem dL_calls_36 : decode cL_calls 36 = .ok (.iload_n 2, 1) := by decide +kernel
theorem dL_calls_37 : decode cL_calls 37 = .ok (.invokevirtual 20, 3) := by decide +kernel
theorem dL_calls_40 : decode cL_calls 40 = .ok (.goto 22, 3) := by decide +kernel
theorem dL_calls_43 : decode cL_calls 43 = .ok (.iload_n 1, 1) := by decide +kernel
theorem dL_calls_44 : decode cL_calls 44 = .ok (.iconst 3, 1) := by decide +kernel
theorem dL_calls_45 : decode cL_calls 45 = .ok (.if_icmp .ne 12, 3) := by decide +kernel
theorem dL_calls_48 : decode cL_calls 48 = .ok (.aload_n 0, 1) := by decide +kernel
theorem dL_calls_49 : decode cL_calls 49 = .ok (.iload_n 2, 1) := by decide +kernel
theorem dL_calls_50 : decode cL_calls 50 = .ok (.iload_n 3, 1) := by decide +kernel
theorem dL_calls_51 : decode cL_calls 51 = .ok (.invokevirtual 23, 3) := by decide +kernel
theorem dL_calls_54 : decode cL_calls 54 = .ok (.goto 8, 3) := by decide +kernel
theorem dL_calls_57 : decode cL_calls 57 = .ok (.aload_n 0, 1) := by decide +kernel
theorem dL_calls_58 : decode cL_calls 58 = .ok (.iload_n 2, 1) := by decide +kernel
theorem dL_calls_59 : decode cL_calls 59 = .ok (.invokevirtual 27, 3) := by decide +kernel
theorem dL_calls_62 : decode cL_calls 62 = .ok (.ireturn, 1) := by decide +kernel
theorem dL_calls_63 : decode cL_calls 63 = .ok (.astore 6, 2) := by decide +kernel
theorem dL_calls_65 : decode cL_calls 65 = .ok (.bipush (-3), 2) := by decide +kernel
theorem dL_calls_67 : decode cL_calls 67 = .ok (.ireturn, 1) := by decide +kernel
theorem dL_sounds_0 : decode cL_sounds 0 = .ok (.iconst 0, 1) := by decide +kernel
theorem dL_sounds_1 : decode cL_sounds 1 = .ok (.istore_n 2, 1) := by decide +kernel
theorem dL_sounds_2 : decode cL_sounds 2 = .ok (.iload_n 0, 1) := by decide +kernel
theorem dL_sounds_3 : decode cL_sounds 3 = .ok (.istore_n 3, 1) := by decide +kernel
theorem dL_sounds_4 : decode cL_sounds 4 = .ok (.iload_n 3, 1) := by decide +kernel
theorem dL_sounds_5 : decode cL_sounds 5 = .ok (.ifCond .le 23, 3) := by decide +kernel
theorem dL_sounds_8 : decode cL_sounds 8 = .ok (.aload_n 1, 1) := by decide +kernel
theorem dL_sounds_9 : decode cL_sounds 9 = .ok (.iload_n 2, 1) := by decide +kernel
theorem dL_sounds_10 : decode cL_sounds 10 = .ok (.iload_n 3, 1) := by decide +kernel
theorem dL_sounds_11 : decode cL_sounds 11 = .ok (.bipush 9, 2) := by decide +kernel
theorem dL_sounds_13 : decode cL_sounds 13 = .ok (.irem, 1) := by decide +kernel
theorem dL_sounds_14 : decode cL_sounds 14 = .ok (.iconst 1, 1) := by decide +kernel
theorem dL_sounds_15 : decode cL_sounds 15 = .ok (.isub, 1) := by decide +kernel
theorem dL_sounds_16 : decode cL_sounds 16 = .ok (.iastore, 1) := by decide +kernel
theorem dL_sounds_17 : decode cL_sounds 17 = .ok (.iinc 2 1, 3) := by decide +kernel
theorem dL_sounds_20 : decode cL_sounds 20 = .ok (.iload_n 3, 1) := by decide +kernel
theorem dL_sounds_21 : decode cL_sounds 21 = .ok (.bipush 9, 2) := by decide +kernel
theorem dL_sounds_23 : decode cL_sounds 23 = .ok (.idiv, 1) := by decide +kernel
theorem dL_sounds_24 : decode cL_sounds 24 = .ok (.istore_n 3, 1) := by decide +kernel
theorem dL_sounds_25 : decode cL_sounds 25 = .ok (.goto (-21), 3) := by decide +kernel
theorem dL_sounds_28 : decode cL_sounds 28 = .ok (.iload_n 2, 1) := by decide +kernel
theorem dL_sounds_29 : decode cL_sounds 29 = .ok (.ireturn, 1) := by decide +kernel
theorem dL_applied_0 : decode cL_applied 0 = .ok (.iconst 0, 1) := by decide +kernel
theorem dL_applied_1 : decode cL_applied 1 = .ok (.istore_n 3, 1) := by decide +kernel
theorem dL_applied_2 : decode cL_applied 2 = .ok (.iconst 1, 1) := by decide +kernel
theorem dL_applied_3 : decode cL_applied 3 = .ok (.istore 4, 2) := by decide +kernel
theorem dL_applied_5 : decode cL_applied 5 = .ok (.bipush 8, 2) := by decide +kernel
theorem dL_applied_7 : decode cL_applied 7 = .ok (.istore 5, 2) := by decide +kernel
theorem dL_applied_9 : decode cL_applied 9 = .ok (.iload_n 0, 1) := by decide +kernel
theorem dL_applied_10 : decode cL_applied 10 = .ok (.istore 6, 2) := by decide +kernel
theorem dL_applied_12 : decode cL_applied 12 = .ok (.iload 6, 2) := by decide +kernel
theorem dL_applied_14 : decode cL_applied 14 = .ok (.ifCond .le 125, 3) := by decide +kernel
theorem dL_applied_17 : decode cL_applied 17 = .ok (.iload 6, 2) := by decide +kernel
theorem dL_applied_19 : decode cL_applied 19 = .ok (.bipush 9, 2) := by decide +kernel
theorem dL_applied_21 : decode cL_applied 21 = .ok (.irem, 1) := by decide +kernel
theorem dL_applied_22 : decode cL_applied 22 = .ok (.iconst 1, 1) := by decide +kernel
theorem dL_applied_23 : decode cL_applied 23 = .ok (.isub, 1) := by decide +kernel
theorem dL_applied_24 : decode cL_applied 24 = .ok (.istore 7, 2) := by decide +kernel
theorem dL_applied_26 : decode cL_applied 26 = .ok (.iload 7, 2) := by decide +kernel
theorem dL_applied_28 : decode cL_applied 28 = .ok (.aload_n 2, 1) := by decide +kernel
theorem dL_applied_29 : decode cL_applied 29 = .ok (.bipush 6, 2) := by decide +kernel
theorem dL_applied_31 : decode cL_applied 31 = .ok (.iload_n 1, 1) := by decide +kernel
theorem dL_applied_32 : decode cL_applied 32 = .ok (.imul, 1) := by decide +kernel
theorem dL_applied_33 : decode cL_applied 33 = .ok (.iaload, 1) := by decide +kernel
theorem dL_applied_34 : decode cL_applied 34 = .ok (.if_icmp .ne 33, 3) := by decide +kernel
theorem dL_applied_37 : decode cL_applied 37 = .ok (.aload_n 2, 1) := by decide +kernel
theorem dL_applied_38 : decode cL_applied 38 = .ok (.bipush 6, 2) := by decide +kernel
theorem dL_applied_40 : decode cL_applied 40 = .ok (.iload_n 1, 1) := by decide +kernel
theorem dL_applied_41 : decode cL_applied 41 = .ok (.imul, 1) := by decide +kernel
theorem dL_applied_42 : decode cL_applied 42 = .ok (.iconst 2, 1) := by decide +kernel
theorem dL_applied_43 : decode cL_applied 43 = .ok (.iadd, 1) := by decide +kernel
theorem dL_applied_44 : decode cL_applied 44 = .ok (.iaload, 1) := by decide +kernel
theorem dL_applied_45 : decode cL_applied 45 = .ok (.bipush 9, 2) := by decide +kernel
theorem dL_applied_47 : decode cL_applied 47 = .ok (.if_icmp .eq 16, 3) := by decide +kernel
theorem dL_applied_50 : decode cL_applied 50 = .ok (.aload_n 2, 1) := by decide +kernel
theorem dL_applied_51 : decode cL_applied 51 = .ok (.bipush 6, 2) := by decide +kernel
theorem dL_applied_53 : decode cL_applied 53 = .ok (.iload_n 1, 1) := by decide +kernel
theorem dL_applied_54 : decode cL_applied 54 = .ok (.imul, 1) := by decide +kernel
theorem dL_applied_55 : decode cL_applied 55 = .ok (.iconst 2, 1) := by decide +kernel
theorem dL_applied_56 : decode cL_applied 56 = .ok (.iadd, 1) := by decide +kernel
theorem dL_applied_57 : decode cL_applied 57 = .ok (.iaload, 1) := by decide +kernel
theorem dL_applied_58 : decode cL_applied 58 = .ok (.iload 5, 2) := by decide +kernel
theorem dL_applied_60 : decode cL_applied 60 = .ok (.if_icmp .ne 7, 3) := by decide +kernel
theorem dL_applied_63 : decode cL_applied 63 = .ok (.iconst 1, 1) := by decide +kernel
theorem dL_applied_64 : decode cL_applied 64 = .ok (.goto 4, 3) := by decide +kernel
theorem dL_applied_67 : decode cL_applied 67 = .ok (.iconst 0, 1) := by decide +kernel
theorem dL_applied_68 : decode cL_applied 68 = .ok (.istore 8, 2) := by decide +kernel
theorem dL_applied_70 : decode cL_applied 70 = .ok (.iload 8, 2) := by decide +kernel
theorem dL_applied_72 : decode cL_applied 72 = .ok (.ifCond .eq 14, 3) := by decide +kernel
theorem dL_applied_75 : decode cL_applied 75 = .ok (.aload_n 2, 1) := by decide +kernel
theorem dL_applied_76 : decode cL_applied 76 = .ok (.bipush 6, 2) := by decide +kernel
theorem dL_applied_78 : decode cL_applied 78 = .ok (.iload_n 1, 1) := by decide +kernel
theorem dL_applied_79 : decode cL_applied 79 = .ok (.imul, 1) := by decide +kernel
theorem dL_applied_80 : decode cL_applied 80 = .ok (.iconst 1, 1) := by decide +kernel
theorem dL_applied_81 : decode cL_applied 81 = .ok (.iadd, 1) := by decide +kernel
theorem dL_applied_82 : decode cL_applied 82 = .ok (.iaload, 1) := by decide +kernel
theorem dL_applied_83 : decode cL_applied 83 = .ok (.goto 5, 3) := by decide +kernel
theorem dL_applied_86 : decode cL_applied 86 = .ok (.iload 7, 2) := by decide +kernel
theorem dL_applied_88 : decode cL_applied 88 = .ok (.istore 9, 2) := by decide +kernel
theorem dL_applied_90 : decode cL_applied 90 = .ok (.iload_n 3, 1) := by decide +kernel
theorem dL_applied_91 : decode cL_applied 91 = .ok (.iload 9, 2) := by decide +kernel
theorem dL_applied_93 : decode cL_applied 93 = .ok (.ifCond .ge 7, 3) := by decide +kernel
theorem dL_applied_96 : decode cL_applied 96 = .ok (.iconst 0, 1) := by decide +kernel
theorem dL_applied_97 : decode cL_applied 97 = .ok (.goto 10, 3) := by decide +kernel
theorem dL_applied_100 : decode cL_applied 100 = .ok (.iload 4, 2) := by decide +kernel
theorem dL_applied_102 : decode cL_applied 102 = .ok (.iload 9, 2) := by decide +kernel
theorem dL_applied_104 : decode cL_applied 104 = .ok (.iconst 1, 1) := by decide +kernel
theorem dL_applied_105 : decode cL_applied 105 = .ok (.iadd, 1) := by decide +kernel
theorem dL_applied_106 : decode cL_applied 106 = .ok (.imul, 1) := by decide +kernel
theorem dL_applied_107 : decode cL_applied 107 = .ok (.iadd, 1) := by decide +kernel
theorem dL_applied_108 : decode cL_applied 108 = .ok (.istore_n 3, 1) := by decide +kernel
theorem dL_applied_109 : decode cL_applied 109 = .ok (.iload 4, 2) := by decide +kernel
theorem dL_applied_111 : decode cL_applied 111 = .ok (.iload 9, 2) := by decide +kernel
theorem dL_applied_113 : decode cL_applied 113 = .ok (.ifCond .ge 7, 3) := by decide +kernel
theorem dL_applied_116 : decode cL_applied 116 = .ok (.iconst 1, 1) := by decide +kernel
theorem dL_applied_117 : decode cL_applied 117 = .ok (.goto 5, 3) := by decide +kernel
theorem dL_applied_120 : decode cL_applied 120 = .ok (.bipush 9, 2) := by decide +kernel
theorem dL_applied_122 : decode cL_applied 122 = .ok (.imul, 1) := by decide +kernel
theorem dL_applied_123 : decode cL_applied 123 = .ok (.istore 4, 2) := by decide +kernel
theorem dL_applied_125 : decode cL_applied 125 = .ok (.iload 7, 2) := by decide +kernel
theorem dL_applied_127 : decode cL_applied 127 = .ok (.istore 5, 2) := by decide +kernel
theorem dL_applied_129 : decode cL_applied 129 = .ok (.iload 6, 2) := by decide +kernel
theorem dL_applied_131 : decode cL_applied 131 = .ok (.bipush 9, 2) := by decide +kernel
theorem dL_applied_133 : decode cL_applied 133 = .ok (.idiv, 1) := by decide +kernel
theorem dL_applied_134 : decode cL_applied 134 = .ok (.istore 6, 2) := by decide +kernel
theorem dL_applied_136 : decode cL_applied 136 = .ok (.goto (-124), 3) := by decide +kernel
theorem dL_applied_139 : decode cL_applied 139 = .ok (.iload_n 3, 1) := by decide +kernel
theorem dL_applied_140 : decode cL_applied 140 = .ok (.ifCond .ne 7, 3) := by decide +kernel
theorem dL_applied_143 : decode cL_applied 143 = .ok (.iload_n 0, 1) := by decide +kernel
theorem dL_applied_144 : decode cL_applied 144 = .ok (.goto 4, 3) := by decide +kernel
theorem dL_applied_147 : decode cL_applied 147 = .ok (.iload_n 3, 1) := by decide +kernel
theorem dL_applied_148 : decode cL_applied 148 = .ok (.ireturn, 1) := by decide +kernel
theorem dL_expected_0 : decode cL_expected 0 = .ok (.aload 4, 2) := by decide +kernel
theorem dL_expected_2 : decode cL_expected 2 = .ok (.bipush 10, 2) := by decide +kernel
theorem dL_expected_4 : decode cL_expected 4 = .ok (.iload_n 0, 1) := by decide +kernel
theorem dL_expected_5 : decode cL_expected 5 = .ok (.iadd, 1) := by decide +kernel
theorem dL_expected_6 : decode cL_expected 6 = .ok (.iaload, 1) := by decide +kernel
theorem dL_expected_7 : decode cL_expected 7 = .ok (.istore 5, 2) := by decide +kernel
theorem dL_expected_9 : decode cL_expected 9 = .ok (.iconst 0, 1) := by decide +kernel
theorem dL_expected_10 : decode cL_expected 10 = .ok (.istore 6, 2) := by decide +kernel
theorem dL_expected_12 : decode cL_expected 12 = .ok (.iload 6, 2) := by decide +kernel
theorem dL_expected_14 : decode cL_expected 14 = .ok (.aload 4, 2) := by decide +kernel
theorem dL_expected_16 : decode cL_expected 16 = .ok (.iconst 3, 1) := by decide +kernel
theorem dL_expected_17 : decode cL_expected 17 = .ok (.iaload, 1) := by decide +kernel
theorem dL_expected_18 : decode cL_expected 18 = .ok (.if_icmp .ge 93, 3) := by decide +kernel
theorem dL_expected_21 : decode cL_expected 21 = .ok (.iload 5, 2) := by decide +kernel
theorem dL_expected_23 : decode cL_expected 23 = .ok (.ifCond .le 88, 3) := by decide +kernel
theorem dL_expected_26 : decode cL_expected 26 = .ok (.aload 4, 2) := by decide +kernel
theorem dL_expected_28 : decode cL_expected 28 = .ok (.bipush 6, 2) := by decide +kernel
theorem dL_expected_30 : decode cL_expected 30 = .ok (.iaload, 1) := by decide +kernel
theorem dL_expected_31 : decode cL_expected 31 = .ok (.iload 6, 2) := by decide +kernel
theorem dL_expected_33 : decode cL_expected 33 = .ok (.ishr, 1) := by decide +kernel
theorem dL_expected_34 : decode cL_expected 34 = .ok (.iconst 1, 1) := by decide +kernel
theorem dL_expected_35 : decode cL_expected 35 = .ok (.iand, 1) := by decide +kernel
theorem dL_expected_36 : decode cL_expected 36 = .ok (.ifCond .ne 46, 3) := by decide +kernel
theorem dL_expected_39 : decode cL_expected 39 = .ok (.iload_n 1, 1) := by decide +kernel
theorem dL_expected_40 : decode cL_expected 40 = .ok (.aload_n 3, 1) := by decide +kernel
theorem dL_expected_41 : decode cL_expected 41 = .ok (.bipush 6, 2) := by decide +kernel
theorem dL_expected_43 : decode cL_expected 43 = .ok (.iload 6, 2) := by decide +kernel
theorem dL_expected_45 : decode cL_expected 45 = .ok (.imul, 1) := by decide +kernel
theorem dL_expected_46 : decode cL_expected 46 = .ok (.iconst 3, 1) := by decide +kernel
theorem dL_expected_47 : decode cL_expected 47 = .ok (.iadd, 1) := by decide +kernel
theorem dL_expected_48 : decode cL_expected 48 = .ok (.iaload, 1) := by decide +kernel
theorem dL_expected_49 : decode cL_expected 49 = .ok (.if_icmp .lt 33, 3) := by decide +kernel
theorem dL_expected_52 : decode cL_expected 52 = .ok (.iload_n 1, 1) := by decide +kernel
theorem dL_expected_53 : decode cL_expected 53 = .ok (.aload_n 3, 1) := by decide +kernel
theorem dL_expected_54 : decode cL_expected 54 = .ok (.bipush 6, 2) := by decide +kernel
theorem dL_expected_56 : decode cL_expected 56 = .ok (.iload 6, 2) := by decide +kernel
theorem dL_expected_58 : decode cL_expected 58 = .ok (.imul, 1) := by decide +kernel
theorem dL_expected_59 : decode cL_expected 59 = .ok (.iconst 4, 1) := by decide +kernel
theorem dL_expected_60 : decode cL_expected 60 = .ok (.iadd, 1) := by decide +kernel
theorem dL_expected_61 : decode cL_expected 61 = .ok (.iaload, 1) := by decide +kernel
theorem dL_expected_62 : decode cL_expected 62 = .ok (.if_icmp .gt 20, 3) := by decide +kernel
theorem dL_expected_65 : decode cL_expected 65 = .ok (.iload_n 2, 1) := by decide +kernel
theorem dL_expected_66 : decode cL_expected 66 = .ok (.aload_n 3, 1) := by decide +kernel
theorem dL_expected_67 : decode cL_expected 67 = .ok (.bipush 6, 2) := by decide +kernel
theorem dL_expected_69 : decode cL_expected 69 = .ok (.iload 6, 2) := by decide +kernel
theorem dL_expected_71 : decode cL_expected 71 = .ok (.imul, 1) := by decide +kernel
theorem dL_expected_72 : decode cL_expected 72 = .ok (.iconst 5, 1) := by decide +kernel
theorem dL_expected_73 : decode cL_expected 73 = .ok (.iadd, 1) := by decide +kernel
theorem dL_expected_74 : decode cL_expected 74 = .ok (.iaload, 1) := by decide +kernel
theorem dL_expected_75 : decode cL_expected 75 = .ok (.if_icmp .lt 7, 3) := by decide +kernel
theorem dL_expected_78 : decode cL_expected 78 = .ok (.iconst 1, 1) := by decide +kernel
theorem dL_expected_79 : decode cL_expected 79 = .ok (.goto 4, 3) := by decide +kernel
theorem dL_expected_82 : decode cL_expected 82 = .ok (.iconst 0, 1) := by decide +kernel
theorem dL_expected_83 : decode cL_expected 83 = .ok (.istore 7, 2) := by decide +kernel
theorem dL_expected_85 : decode cL_expected 85 = .ok (.iload 7, 2) := by decide +kernel
theorem dL_expected_87 : decode cL_expected 87 = .ok (.ifCond .eq 14, 3) := by decide +kernel
theorem dL_expected_90 : decode cL_expected 90 = .ok (.iload 5, 2) := by decide +kernel
theorem dL_expected_92 : decode cL_expected 92 = .ok (.iload 6, 2) := by decide +kernel
theorem dL_expected_94 : decode cL_expected 94 = .ok (.aload_n 3, 1) := by decide +kernel
theorem dL_expected_95 : decode cL_expected 95 = .ok (.invokestatic 32, 3) := by decide +kernel
theorem dL_expected_98 : decode cL_expected 98 = .ok (.goto 5, 3) := by decide +kernel
theorem dL_expected_101 : decode cL_expected 101 = .ok (.iload 5, 2) := by decide +kernel
theorem dL_expected_103 : decode cL_expected 103 = .ok (.istore 5, 2) := by decide +kernel
theorem dL_expected_105 : decode cL_expected 105 = .ok (.iinc 6 1, 3) := by decide +kernel
theorem dL_expected_108 : decode cL_expected 108 = .ok (.goto (-96), 3) := by decide +kernel
theorem dL_expected_111 : decode cL_expected 111 = .ok (.iload 5, 2) := by decide +kernel
theorem dL_expected_113 : decode cL_expected 113 = .ok (.ireturn, 1) := by decide +kernel
theorem dL_steps_0 : decode cL_steps 0 = .ok (.iload_n 0, 1) := by decide +kernel
theorem dL_steps_1 : decode cL_steps 1 = .ok (.aload_n 2, 1) := by decide +kernel
theorem dL_steps_2 : decode cL_steps 2 = .ok (.invokestatic 38, 3) := by decide +kernel
theorem dL_steps_5 : decode cL_steps 5 = .ok (.istore 5, 2) := by decide +kernel
theorem dL_steps_7 : decode cL_steps 7 = .ok (.iload_n 1, 1) := by decide +kernel
theorem dL_steps_8 : decode cL_steps 8 = .ok (.aload_n 3, 1) := by decide +kernel
theorem dL_steps_9 : decode cL_steps 9 = .ok (.invokestatic 38, 3) := by decide +kernel
theorem dL_steps_12 : decode cL_steps 12 = .ok (.istore 6, 2) := by decide +kernel
theorem dL_steps_14 : decode cL_steps 14 = .ok (.iconst 0, 1) := by decide +kernel
theorem dL_steps_15 : decode cL_steps 15 = .ok (.istore 7, 2) := by decide +kernel
theorem dL_steps_17 : decode cL_steps 17 = .ok (.iload 7, 2) := by decide +kernel
theorem dL_steps_19 : decode cL_steps 19 = .ok (.iload 5, 2) := by decide +kernel
theorem dL_steps_21 : decode cL_steps 21 = .ok (.if_icmp .gt 175, 3) := by decide +kernel
theorem dL_steps_24 : decode cL_steps 24 = .ok (.iconst 0, 1) := by decide +kernel
theorem dL_steps_25 : decode cL_steps 25 = .ok (.istore 8, 2) := by decide +kernel
theorem dL_steps_27 : decode cL_steps 27 = .ok (.iconst 0, 1) := by decide +kernel
theorem dL_steps_28 : decode cL_steps 28 = .ok (.istore 9, 2) := by decide +kernel
theorem dL_steps_30 : decode cL_steps 30 = .ok (.iload 9, 2) := by decide +kernel
theorem dL_steps_32 : decode cL_steps 32 = .ok (.iload 6, 2) := by decide +kernel
theorem dL_steps_34 : decode cL_steps 34 = .ok (.if_icmp .gt 156, 3) := by decide +kernel
theorem dL_steps_37 : decode cL_steps 37 = .ok (.aload 4, 2) := by decide +kernel
theorem dL_steps_39 : decode cL_steps 39 = .ok (.iload 9, 2) := by decide +kernel
theorem dL_steps_41 : decode cL_steps 41 = .ok (.iaload, 1) := by decide +kernel
theorem dL_steps_42 : decode cL_steps 42 = .ok (.istore 10, 2) := by decide +kernel
theorem dL_steps_44 : decode cL_steps 44 = .ok (.iload 7, 2) := by decide +kernel
theorem dL_steps_46 : decode cL_steps 46 = .ok (.ifCond .le 27, 3) := by decide +kernel
theorem dL_steps_49 : decode cL_steps 49 = .ok (.iload 9, 2) := by decide +kernel
theorem dL_steps_51 : decode cL_steps 51 = .ok (.ifCond .le 22, 3) := by decide +kernel
theorem dL_steps_54 : decode cL_steps 54 = .ok (.aload_n 2, 1) := by decide +kernel
theorem dL_steps_55 : decode cL_steps 55 = .ok (.iload 7, 2) := by decide +kernel
theorem dL_steps_57 : decode cL_steps 57 = .ok (.iconst 1, 1) := by decide +kernel
theorem dL_steps_58 : decode cL_steps 58 = .ok (.isub, 1) := by decide +kernel
theorem dL_steps_59 : decode cL_steps 59 = .ok (.iaload, 1) := by decide +kernel
theorem dL_steps_60 : decode cL_steps 60 = .ok (.aload_n 3, 1) := by decide +kernel
theorem dL_steps_61 : decode cL_steps 61 = .ok (.iload 9, 2) := by decide +kernel
theorem dL_steps_63 : decode cL_steps 63 = .ok (.iconst 1, 1) := by decide +kernel
theorem dL_steps_64 : decode cL_steps 64 = .ok (.isub, 1) := by decide +kernel
theorem dL_steps_65 : decode cL_steps 65 = .ok (.iaload, 1) := by decide +kernel
theorem dL_steps_66 : decode cL_steps 66 = .ok (.if_icmp .ne 7, 3) := by decide +kernel
theorem dL_steps_69 : decode cL_steps 69 = .ok (.iconst 0, 1) := by decide +kernel
theorem dL_steps_70 : decode cL_steps 70 = .ok (.goto 4, 3) := by decide +kernel
theorem dL_steps_73 : decode cL_steps 73 = .ok (.iconst 1, 1) := by decide +kernel
theorem dL_steps_74 : decode cL_steps 74 = .ok (.istore 11, 2) := by decide +kernel
theorem dL_steps_76 : decode cL_steps 76 = .ok (.iload 7, 2) := by decide +kernel
theorem dL_steps_78 : decode cL_steps 78 = .ok (.ifCond .ne 8, 3) := by decide +kernel
theorem dL_steps_81 : decode cL_steps 81 = .ok (.iload 9, 2) := by decide +kernel
theorem dL_steps_83 : decode cL_steps 83 = .ok (.goto 18, 3) := by decide +kernel
theorem dL_steps_86 : decode cL_steps 86 = .ok (.iload 9, 2) := by decide +kernel
theorem dL_steps_88 : decode cL_steps 88 = .ok (.ifCond .ne 8, 3) := by decide +kernel
theorem dL_steps_91 : decode cL_steps 91 = .ok (.iload 7, 2) := by decide +kernel
theorem dL_steps_93 : decode cL_steps 93 = .ok (.goto 8, 3) := by decide +kernel
theorem dL_steps_96 : decode cL_steps 96 = .ok (.iload 8, 2) := by decide +kernel
theorem dL_steps_98 : decode cL_steps 98 = .ok (.iload 11, 2) := by decide +kernel
theorem dL_steps_100 : decode cL_steps 100 = .ok (.iadd, 1) := by decide +kernel
theorem dL_steps_101 : decode cL_steps 101 = .ok (.istore 12, 2) := by decide +kernel
theorem dL_steps_103 : decode cL_steps 103 = .ok (.iload 7, 2) := by decide +kernel
theorem dL_steps_105 : decode cL_steps 105 = .ok (.ifCond .le 24, 3) := by decide +kernel
theorem dL_steps_108 : decode cL_steps 108 = .ok (.iload 9, 2) := by decide +kernel
theorem dL_steps_110 : decode cL_steps 110 = .ok (.ifCond .le 19, 3) := by decide +kernel
theorem dL_steps_113 : decode cL_steps 113 = .ok (.iload 10, 2) := by decide +kernel
theorem dL_steps_115 : decode cL_steps 115 = .ok (.iconst 1, 1) := by decide +kernel
theorem dL_steps_116 : decode cL_steps 116 = .ok (.iadd, 1) := by decide +kernel
theorem dL_steps_117 : decode cL_steps 117 = .ok (.iload 12, 2) := by decide +kernel
theorem dL_steps_119 : decode cL_steps 119 = .ok (.if_icmp .ge 10, 3) := by decide +kernel
theorem dL_steps_122 : decode cL_steps 122 = .ok (.iload 10, 2) := by decide +kernel
theorem dL_steps_124 : decode cL_steps 124 = .ok (.iconst 1, 1) := by decide +kernel
theorem dL_steps_125 : decode cL_steps 125 = .ok (.iadd, 1) := by decide +kernel
theorem dL_steps_126 : decode cL_steps 126 = .ok (.goto 5, 3) := by decide +kernel
theorem dL_steps_129 : decode cL_steps 129 = .ok (.iload 12, 2) := by decide +kernel
theorem dL_steps_131 : decode cL_steps 131 = .ok (.istore 12, 2) := by decide +kernel
theorem dL_steps_133 : decode cL_steps 133 = .ok (.iload 7, 2) := by decide +kernel
theorem dL_steps_135 : decode cL_steps 135 = .ok (.ifCond .le 34, 3) := by decide +kernel
theorem dL_steps_138 : decode cL_steps 138 = .ok (.iload 9, 2) := by decide +kernel
theorem dL_steps_140 : decode cL_steps 140 = .ok (.ifCond .le 29, 3) := by decide +kernel
theorem dL_steps_143 : decode cL_steps 143 = .ok (.aload 4, 2) := by decide +kernel
theorem dL_steps_145 : decode cL_steps 145 = .ok (.iload 9, 2) := by decide +kernel
theorem dL_steps_147 : decode cL_steps 147 = .ok (.iconst 1, 1) := by decide +kernel
theorem dL_steps_148 : decode cL_steps 148 = .ok (.isub, 1) := by decide +kernel
theorem dL_steps_149 : decode cL_steps 149 = .ok (.iaload, 1) := by decide +kernel
theorem dL_steps_150 : decode cL_steps 150 = .ok (.iconst 1, 1) := by decide +kernel
theorem dL_steps_151 : decode cL_steps 151 = .ok (.iadd, 1) := by decide +kernel
theorem dL_steps_152 : decode cL_steps 152 = .ok (.iload 12, 2) := by decide +kernel
theorem dL_steps_154 : decode cL_steps 154 = .ok (.if_icmp .ge 15, 3) := by decide +kernel
theorem dL_steps_157 : decode cL_steps 157 = .ok (.aload 4, 2) := by decide +kernel
theorem dL_steps_159 : decode cL_steps 159 = .ok (.iload 9, 2) := by decide +kernel
theorem dL_steps_161 : decode cL_steps 161 = .ok (.iconst 1, 1) := by decide +kernel
theorem dL_steps_162 : decode cL_steps 162 = .ok (.isub, 1) := by decide +kernel
theorem dL_steps_163 : decode cL_steps 163 = .ok (.iaload, 1) := by decide +kernel
theorem dL_steps_164 : decode cL_steps 164 = .ok (.iconst 1, 1) := by decide +kernel
theorem dL_steps_165 : decode cL_steps 165 = .ok (.iadd, 1) := by decide +kernel
theorem dL_steps_166 : decode cL_steps 166 = .ok (.goto 5, 3) := by decide +kernel
theorem dL_steps_169 : decode cL_steps 169 = .ok (.iload 12, 2) := by decide +kernel
theorem dL_steps_171 : decode cL_steps 171 = .ok (.istore 12, 2) := by decide +kernel
theorem dL_steps_173 : decode cL_steps 173 = .ok (.aload 4, 2) := by decide +kernel
theorem dL_steps_175 : decode cL_steps 175 = .ok (.iload 9, 2) := by decide +kernel
theorem dL_steps_177 : decode cL_steps 177 = .ok (.iload 12, 2) := by decide +kernel
theorem dL_steps_179 : decode cL_steps 179 = .ok (.iastore, 1) := by decide +kernel
theorem dL_steps_180 : decode cL_steps 180 = .ok (.iload 10, 2) := by decide +kernel
theorem dL_steps_182 : decode cL_steps 182 = .ok (.istore 8, 2) := by decide +kernel
theorem dL_steps_184 : decode cL_steps 184 = .ok (.iinc 9 1, 3) := by decide +kernel
theorem dL_steps_187 : decode cL_steps 187 = .ok (.goto (-157), 3) := by decide +kernel
theorem dL_steps_190 : decode cL_steps 190 = .ok (.iinc 7 1, 3) := by decide +kernel
theorem dL_steps_193 : decode cL_steps 193 = .ok (.goto (-176), 3) := by decide +kernel
theorem dL_steps_196 : decode cL_steps 196 = .ok (.aload 4, 2) := by decide +kernel
theorem dL_steps_198 : decode cL_steps 198 = .ok (.iload 6, 2) := by decide +kernel
theorem dL_steps_200 : decode cL_steps 200 = .ok (.iaload, 1) := by decide +kernel
theorem dL_steps_201 : decode cL_steps 201 = .ok (.ireturn, 1) := by decide +kernel
theorem dL_there_0 : decode cL_there 0 = .ok (.aload 4, 2) := by decide +kernel
theorem dL_there_2 : decode cL_there 2 = .ok (.iconst 5, 1) := by decide +kernel
theorem dL_there_3 : decode cL_there 3 = .ok (.iaload, 1) := by decide +kernel
theorem dL_there_4 : decode cL_there 4 = .ok (.iload_n 0, 1) := by decide +kernel
theorem dL_there_5 : decode cL_there 5 = .ok (.ishr, 1) := by decide +kernel
theorem dL_there_6 : decode cL_there 6 = .ok (.iconst 1, 1) := by decide +kernel
theorem dL_there_7 : decode cL_there 7 = .ok (.iand, 1) := by decide +kernel
theorem dL_there_8 : decode cL_there 8 = .ok (.ifCond .ne 29, 3) := by decide +kernel
theorem dL_there_11 : decode cL_there 11 = .ok (.aload_n 3, 1) := by decide +kernel
theorem dL_there_12 : decode cL_there 12 = .ok (.iconst 4, 1) := by decide +kernel
theorem dL_there_13 : decode cL_there 13 = .ok (.iload_n 0, 1) := by decide +kernel
theorem dL_there_14 : decode cL_there 14 = .ok (.imul, 1) := by decide +kernel
theorem dL_there_15 : decode cL_there 15 = .ok (.iconst 1, 1) := by decide +kernel
theorem dL_there_16 : decode cL_there 16 = .ok (.iadd, 1) := by decide +kernel
theorem dL_there_17 : decode cL_there 17 = .ok (.iaload, 1) := by decide +kernel
theorem dL_there_18 : decode cL_there 18 = .ok (.iload_n 2, 1) := by decide +kernel
theorem dL_there_19 : decode cL_there 19 = .ok (.if_icmp .ne 18, 3) := by decide +kernel
theorem dL_there_22 : decode cL_there 22 = .ok (.aload_n 3, 1) := by decide +kernel
theorem dL_there_23 : decode cL_there 23 = .ok (.iconst 4, 1) := by decide +kernel
theorem dL_there_24 : decode cL_there 24 = .ok (.iload_n 0, 1) := by decide +kernel
theorem dL_there_25 : decode cL_there 25 = .ok (.imul, 1) := by decide +kernel
theorem dL_there_26 : decode cL_there 26 = .ok (.iconst 3, 1) := by decide +kernel
theorem dL_there_27 : decode cL_there 27 = .ok (.iadd, 1) := by decide +kernel
theorem dL_there_28 : decode cL_there 28 = .ok (.iaload, 1) := by decide +kernel
theorem dL_there_29 : decode cL_there 29 = .ok (.iload_n 1, 1) := by decide +kernel
theorem dL_there_30 : decode cL_there 30 = .ok (.if_icmp .ne 7, 3) := by decide +kernel
theorem dL_there_33 : decode cL_there 33 = .ok (.iconst 1, 1) := by decide +kernel
theorem dL_there_34 : decode cL_there 34 = .ok (.goto 4, 3) := by decide +kernel
theorem dL_there_37 : decode cL_there 37 = .ok (.iconst 0, 1) := by decide +kernel
theorem dL_there_38 : decode cL_there 38 = .ok (.ireturn, 1) := by decide +kernel
theorem dL_formAt_0 : decode cL_formAt 0 = .ok (.iconst (-1), 1) := by decide +kernel
theorem dL_formAt_1 : decode cL_formAt 1 = .ok (.istore 5, 2) := by decide +kernel
theorem dL_formAt_3 : decode cL_formAt 3 = .ok (.iconst 0, 1) := by decide +kernel
theorem dL_formAt_4 : decode cL_formAt 4 = .ok (.istore 6, 2) := by decide +kernel
theorem dL_formAt_6 : decode cL_formAt 6 = .ok (.aload 4, 2) := by decide +kernel
theorem dL_formAt_8 : decode cL_formAt 8 = .ok (.iconst 2, 1) := by decide +kernel
theorem dL_formAt_9 : decode cL_formAt 9 = .ok (.iaload, 1) := by decide +kernel
theorem dL_formAt_10 : decode cL_formAt 10 = .ok (.iconst 1, 1) := by decide +kernel
theorem dL_formAt_11 : decode cL_formAt 11 = .ok (.isub, 1) := by decide +kernel
theorem dL_formAt_12 : decode cL_formAt 12 = .ok (.istore 7, 2) := by decide +kernel
theorem dL_formAt_14 : decode cL_formAt 14 = .ok (.iload 7, 2) := by decide +kernel
theorem dL_formAt_16 : decode cL_formAt 16 = .ok (.ifCond .lt 121, 3) := by decide +kernel
theorem dL_formAt_19 : decode cL_formAt 19 = .ok (.iconst 0, 1) := by decide +kernel
theorem dL_formAt_20 : decode cL_formAt 20 = .ok (.istore 8, 2) := by decide +kernel
theorem dL_formAt_22 : decode cL_formAt 22 = .ok (.iconst 0, 1) := by decide +kernel
theorem dL_formAt_23 : decode cL_formAt 23 = .ok (.istore 9, 2) := by decide +kernel
theorem dL_formAt_25 : decode cL_formAt 25 = .ok (.iload 9, 2) := by decide +kernel
theorem dL_formAt_27 : decode cL_formAt 27 = .ok (.aload 4, 2) := by decide +kernel
theorem dL_formAt_29 : decode cL_formAt 29 = .ok (.iconst 2, 1) := by decide +kernel
theorem dL_formAt_30 : decode cL_formAt 30 = .ok (.iaload, 1) := by decide +kernel
theorem dL_formAt_31 : decode cL_formAt 31 = .ok (.if_icmp .ge 43, 3) := by decide +kernel
theorem dL_formAt_34 : decode cL_formAt 34 = .ok (.iload 8, 2) := by decide +kernel
theorem dL_formAt_36 : decode cL_formAt 36 = .ok (.iload 9, 2) := by decide +kernel
theorem dL_formAt_38 : decode cL_formAt 38 = .ok (.iload_n 0, 1) := by decide +kernel
theorem dL_formAt_39 : decode cL_formAt 39 = .ok (.iload_n 1, 1) := by decide +kernel
theorem dL_formAt_40 : decode cL_formAt 40 = .ok (.aload_n 2, 1) := by decide +kernel
theorem dL_formAt_41 : decode cL_formAt 41 = .ok (.aload 4, 2) := by decide +kernel
theorem dL_formAt_43 : decode cL_formAt 43 = .ok (.invokestatic 42, 3) := by decide +kernel
theorem dL_formAt_46 : decode cL_formAt 46 = .ok (.ifCond .eq 18, 3) := by decide +kernel
theorem dL_formAt_49 : decode cL_formAt 49 = .ok (.aload_n 3, 1) := by decide +kernel
theorem dL_formAt_50 : decode cL_formAt 50 = .ok (.iload 9, 2) := by decide +kernel
theorem dL_formAt_52 : decode cL_formAt 52 = .ok (.iaload, 1) := by decide +kernel
theorem dL_formAt_53 : decode cL_formAt 53 = .ok (.aload_n 3, 1) := by decide +kernel
theorem dL_formAt_54 : decode cL_formAt 54 = .ok (.iload 7, 2) := by decide +kernel
theorem dL_formAt_56 : decode cL_formAt 56 = .ok (.iaload, 1) := by decide +kernel
theorem dL_formAt_57 : decode cL_formAt 57 = .ok (.if_icmp .ne 7, 3) := by decide +kernel
theorem dL_formAt_60 : decode cL_formAt 60 = .ok (.iconst 1, 1) := by decide +kernel
theorem dL_formAt_61 : decode cL_formAt 61 = .ok (.goto 4, 3) := by decide +kernel
theorem dL_formAt_64 : decode cL_formAt 64 = .ok (.iconst 0, 1) := by decide +kernel
theorem dL_formAt_65 : decode cL_formAt 65 = .ok (.iadd, 1) := by decide +kernel
theorem dL_formAt_66 : decode cL_formAt 66 = .ok (.istore 8, 2) := by decide +kernel
theorem dL_formAt_68 : decode cL_formAt 68 = .ok (.iinc 9 1, 3) := by decide +kernel
theorem dL_formAt_71 : decode cL_formAt 71 = .ok (.goto (-46), 3) := by decide +kernel
theorem dL_formAt_74 : decode cL_formAt 74 = .ok (.iload 7, 2) := by decide +kernel
theorem dL_formAt_76 : decode cL_formAt 76 = .ok (.iload_n 0, 1) := by decide +kernel
theorem dL_formAt_77 : decode cL_formAt 77 = .ok (.iload_n 1, 1) := by decide +kernel
theorem dL_formAt_78 : decode cL_formAt 78 = .ok (.aload_n 2, 1) := by decide +kernel
theorem dL_formAt_79 : decode cL_formAt 79 = .ok (.aload 4, 2) := by decide +kernel
theorem dL_formAt_81 : decode cL_formAt 81 = .ok (.invokestatic 42, 3) := by decide +kernel
theorem dL_formAt_84 : decode cL_formAt 84 = .ok (.ifCond .eq 14, 3) := by decide +kernel
theorem dL_formAt_87 : decode cL_formAt 87 = .ok (.iload 8, 2) := by decide +kernel
theorem dL_formAt_89 : decode cL_formAt 89 = .ok (.iload 6, 2) := by decide +kernel
theorem dL_formAt_91 : decode cL_formAt 91 = .ok (.if_icmp .lt 7, 3) := by decide +kernel
theorem dL_formAt_94 : decode cL_formAt 94 = .ok (.iconst 1, 1) := by decide +kernel
theorem dL_formAt_95 : decode cL_formAt 95 = .ok (.goto 4, 3) := by decide +kernel
theorem dL_formAt_98 : decode cL_formAt 98 = .ok (.iconst 0, 1) := by decide +kernel
theorem dL_formAt_99 : decode cL_formAt 99 = .ok (.istore 9, 2) := by decide +kernel
theorem dL_formAt_101 : decode cL_formAt 101 = .ok (.iload 9, 2) := by decide +kernel
theorem dL_formAt_103 : decode cL_formAt 103 = .ok (.ifCond .eq 10, 3) := by decide +kernel
theorem dL_formAt_106 : decode cL_formAt 106 = .ok (.aload_n 3, 1) := by decide +kernel
theorem dL_formAt_107 : decode cL_formAt 107 = .ok (.iload 7, 2) := by decide +kernel
theorem dL_formAt_109 : decode cL_formAt 109 = .ok (.iaload, 1) := by decide +kernel
theorem dL_formAt_110 : decode cL_formAt 110 = .ok (.goto 5, 3) := by decide +kernel
theorem dL_formAt_113 : decode cL_formAt 113 = .ok (.iload 5, 2) := by decide +kernel
theorem dL_formAt_115 : decode cL_formAt 115 = .ok (.istore 5, 2) := by decide +kernel
theorem dL_formAt_117 : decode cL_formAt 117 = .ok (.iload 9, 2) := by decide +kernel
theorem dL_formAt_119 : decode cL_formAt 119 = .ok (.ifCond .eq 8, 3) := by decide +kernel
theorem dL_formAt_122 : decode cL_formAt 122 = .ok (.iload 8, 2) := by decide +kernel
theorem dL_formAt_124 : decode cL_formAt 124 = .ok (.goto 5, 3) := by decide +kernel
theorem dL_formAt_127 : decode cL_formAt 127 = .ok (.iload 6, 2) := by decide +kernel
theorem dL_formAt_129 : decode cL_formAt 129 = .ok (.istore 6, 2) := by decide +kernel
theorem dL_formAt_131 : decode cL_formAt 131 = .ok (.iinc 7 (-1), 3) := by decide +kernel
theorem dL_formAt_134 : decode cL_formAt 134 = .ok (.goto (-120), 3) := by decide +kernel
theorem dL_formAt_137 : decode cL_formAt 137 = .ok (.iload 5, 2) := by decide +kernel
theorem dL_formAt_139 : decode cL_formAt 139 = .ok (.ireturn, 1) := by decide +kernel
theorem dL_bits_0 : decode cL_bits 0 = .ok (.iconst 0, 1) := by decide +kernel
theorem dL_bits_1 : decode cL_bits 1 = .ok (.istore_n 1, 1) := by decide +kernel
theorem dL_bits_2 : decode cL_bits 2 = .ok (.iconst 0, 1) := by decide +kernel
theorem dL_bits_3 : decode cL_bits 3 = .ok (.istore_n 2, 1) := by decide +kernel
theorem dL_bits_4 : decode cL_bits 4 = .ok (.iload_n 2, 1) := by decide +kernel
theorem dL_bits_5 : decode cL_bits 5 = .ok (.bipush 16, 2) := by decide +kernel
theorem dL_bits_7 : decode cL_bits 7 = .ok (.if_icmp .ge 17, 3) := by decide +kernel
theorem dL_bits_10 : decode cL_bits 10 = .ok (.iload_n 1, 1) := by decide +kernel
theorem dL_bits_11 : decode cL_bits 11 = .ok (.iload_n 0, 1) := by decide +kernel
theorem dL_bits_12 : decode cL_bits 12 = .ok (.iload_n 2, 1) := by decide +kernel
theorem dL_bits_13 : decode cL_bits 13 = .ok (.ishr, 1) := by decide +kernel
theorem dL_bits_14 : decode cL_bits 14 = .ok (.iconst 1, 1) := by decide +kernel
theorem dL_bits_15 : decode cL_bits 15 = .ok (.iand, 1) := by decide +kernel
theorem dL_bits_16 : decode cL_bits 16 = .ok (.iadd, 1) := by decide +kernel
theorem dL_bits_17 : decode cL_bits 17 = .ok (.istore_n 1, 1) := by decide +kernel
theorem dL_bits_18 : decode cL_bits 18 = .ok (.iinc 2 1, 3) := by decide +kernel
theorem dL_bits_21 : decode cL_bits 21 = .ok (.goto (-17), 3) := by decide +kernel
theorem dL_bits_24 : decode cL_bits 24 = .ok (.iload_n 1, 1) := by decide +kernel
theorem dL_bits_25 : decode cL_bits 25 = .ok (.ireturn, 1) := by decide +kernel
theorem dL_isMap_0 : decode cL_isMap 0 = .ok (.iconst 0, 1) := by decide +kernel
theorem dL_isMap_1 : decode cL_isMap 1 = .ok (.istore 5, 2) := by decide +kernel
theorem dL_isMap_3 : decode cL_isMap 3 = .ok (.iconst 1, 1) := by decide +kernel
theorem dL_isMap_4 : decode cL_isMap 4 = .ok (.istore 6, 2) := by decide +kernel
theorem dL_isMap_6 : decode cL_isMap 6 = .ok (.iconst 0, 1) := by decide +kernel
theorem dL_isMap_7 : decode cL_isMap 7 = .ok (.istore 7, 2) := by decide +kernel
theorem dL_isMap_9 : decode cL_isMap 9 = .ok (.iload 7, 2) := by decide +kernel
theorem dL_isMap_11 : decode cL_isMap 11 = .ok (.bipush 10, 2) := by decide +kernel
theorem dL_isMap_13 : decode cL_isMap 13 = .ok (.if_icmp .ge 100, 3) := by decide +kernel
theorem dL_isMap_16 : decode cL_isMap 16 = .ok (.iload 6, 2) := by decide +kernel
theorem dL_isMap_18 : decode cL_isMap 18 = .ok (.ifCond .eq 95, 3) := by decide +kernel
theorem dL_isMap_21 : decode cL_isMap 21 = .ok (.iload_n 1, 1) := by decide +kernel
theorem dL_isMap_22 : decode cL_isMap 22 = .ok (.iload 7, 2) := by decide +kernel
theorem dL_isMap_24 : decode cL_isMap 24 = .ok (.aload_n 2, 1) := by decide +kernel
theorem dL_isMap_25 : decode cL_isMap 25 = .ok (.aload_n 3, 1) := by decide +kernel
theorem dL_isMap_26 : decode cL_isMap 26 = .ok (.aload 4, 2) := by decide +kernel
theorem dL_isMap_28 : decode cL_isMap 28 = .ok (.invokestatic 46, 3) := by decide +kernel
theorem dL_isMap_31 : decode cL_isMap 31 = .ok (.istore 8, 2) := by decide +kernel
theorem dL_isMap_33 : decode cL_isMap 33 = .ok (.iload 7, 2) := by decide +kernel
theorem dL_isMap_35 : decode cL_isMap 35 = .ok (.bipush 9, 2) := by decide +kernel
theorem dL_isMap_37 : decode cL_isMap 37 = .ok (.if_icmp .ne 7, 3) := by decide +kernel
theorem dL_isMap_40 : decode cL_isMap 40 = .ok (.iconst (-1), 1) := by decide +kernel
theorem dL_isMap_41 : decode cL_isMap 41 = .ok (.goto 15, 3) := by decide +kernel
theorem dL_isMap_44 : decode cL_isMap 44 = .ok (.iload_n 1, 1) := by decide +kernel
theorem dL_isMap_45 : decode cL_isMap 45 = .ok (.iload 7, 2) := by decide +kernel
theorem dL_isMap_47 : decode cL_isMap 47 = .ok (.iconst 1, 1) := by decide +kernel
theorem dL_isMap_48 : decode cL_isMap 48 = .ok (.iadd, 1) := by decide +kernel
theorem dL_isMap_49 : decode cL_isMap 49 = .ok (.aload_n 2, 1) := by decide +kernel
theorem dL_isMap_50 : decode cL_isMap 50 = .ok (.aload_n 3, 1) := by decide +kernel
theorem dL_isMap_51 : decode cL_isMap 51 = .ok (.aload 4, 2) := by decide +kernel
theorem dL_isMap_53 : decode cL_isMap 53 = .ok (.invokestatic 46, 3) := by decide +kernel
theorem dL_isMap_56 : decode cL_isMap 56 = .ok (.istore 9, 2) := by decide +kernel
theorem dL_isMap_58 : decode cL_isMap 58 = .ok (.iload 5, 2) := by decide +kernel
theorem dL_isMap_60 : decode cL_isMap 60 = .ok (.iload 8, 2) := by decide +kernel
theorem dL_isMap_62 : decode cL_isMap 62 = .ok (.ifCond .lt 22, 3) := by decide +kernel
theorem dL_isMap_65 : decode cL_isMap 65 = .ok (.iload 9, 2) := by decide +kernel
theorem dL_isMap_67 : decode cL_isMap 67 = .ok (.ifCond .lt 17, 3) := by decide +kernel
theorem dL_isMap_70 : decode cL_isMap 70 = .ok (.iload 8, 2) := by decide +kernel
theorem dL_isMap_72 : decode cL_isMap 72 = .ok (.iload 9, 2) := by decide +kernel
theorem dL_isMap_74 : decode cL_isMap 74 = .ok (.if_icmp .eq 10, 3) := by decide +kernel
theorem dL_isMap_77 : decode cL_isMap 77 = .ok (.iconst 1, 1) := by decide +kernel
theorem dL_isMap_78 : decode cL_isMap 78 = .ok (.iload 7, 2) := by decide +kernel
theorem dL_isMap_80 : decode cL_isMap 80 = .ok (.ishl, 1) := by decide +kernel
theorem dL_isMap_81 : decode cL_isMap 81 = .ok (.goto 4, 3) := by decide +kernel
theorem dL_isMap_84 : decode cL_isMap 84 = .ok (.iconst 0, 1) := by decide +kernel
theorem dL_isMap_85 : decode cL_isMap 85 = .ok (.ior, 1) := by decide +kernel
theorem dL_isMap_86 : decode cL_isMap 86 = .ok (.istore 5, 2) := by decide +kernel
theorem dL_isMap_88 : decode cL_isMap 88 = .ok (.aload_n 0, 1) := by decide +kernel
theorem dL_isMap_89 : decode cL_isMap 89 = .ok (.iload_n 1, 1) := by decide +kernel
theorem dL_isMap_90 : decode cL_isMap 90 = .ok (.iload 7, 2) := by decide +kernel
theorem dL_isMap_92 : decode cL_isMap 92 = .ok (.invokevirtual 50, 3) := by decide +kernel
theorem dL_isMap_95 : decode cL_isMap 95 = .ok (.iload 8, 2) := by decide +kernel
theorem dL_isMap_97 : decode cL_isMap 97 = .ok (.if_icmp .ne 7, 3) := by decide +kernel
theorem dL_isMap_100 : decode cL_isMap 100 = .ok (.iconst 1, 1) := by decide +kernel
theorem dL_isMap_101 : decode cL_isMap 101 = .ok (.goto 4, 3) := by decide +kernel
theorem dL_isMap_104 : decode cL_isMap 104 = .ok (.iconst 0, 1) := by decide +kernel
theorem dL_isMap_105 : decode cL_isMap 105 = .ok (.istore 6, 2) := by decide +kernel
theorem dL_isMap_107 : decode cL_isMap 107 = .ok (.iinc 7 1, 3) := by decide +kernel
theorem dL_isMap_110 : decode cL_isMap 110 = .ok (.goto (-101), 3) := by decide +kernel
theorem dL_isMap_113 : decode cL_isMap 113 = .ok (.iload 6, 2) := by decide +kernel
theorem dL_isMap_115 : decode cL_isMap 115 = .ok (.ifCond .eq 27, 3) := by decide +kernel
theorem dL_isMap_118 : decode cL_isMap 118 = .ok (.aload_n 0, 1) := by decide +kernel
theorem dL_isMap_119 : decode cL_isMap 119 = .ok (.iload_n 1, 1) := by decide +kernel
theorem dL_isMap_120 : decode cL_isMap 120 = .ok (.invokevirtual 52, 3) := by decide +kernel
theorem dL_isMap_123 : decode cL_isMap 123 = .ok (.iload 5, 2) := by decide +kernel
theorem dL_isMap_125 : decode cL_isMap 125 = .ok (.if_icmp .ne 17, 3) := by decide +kernel
theorem dL_isMap_128 : decode cL_isMap 128 = .ok (.aload_n 0, 1) := by decide +kernel
theorem dL_isMap_129 : decode cL_isMap 129 = .ok (.iload_n 1, 1) := by decide +kernel
theorem dL_isMap_130 : decode cL_isMap 130 = .ok (.invokevirtual 55, 3) := by decide +kernel
theorem dL_isMap_133 : decode cL_isMap 133 = .ok (.iload 5, 2) := by decide +kernel
theorem dL_isMap_135 : decode cL_isMap 135 = .ok (.if_icmp .ne 7, 3) := by decide +kernel
theorem dL_isMap_138 : decode cL_isMap 138 = .ok (.iconst 1, 1) := by decide +kernel
theorem dL_isMap_139 : decode cL_isMap 139 = .ok (.goto 4, 3) := by decide +kernel
theorem dL_isMap_142 : decode cL_isMap 142 = .ok (.iconst 0, 1) := by decide +kernel
theorem dL_isMap_143 : decode cL_isMap 143 = .ok (.ireturn, 1) := by decide +kernel
theorem dL_isSo_0 : decode cL_isSo 0 = .ok (.aload_n 0, 1) := by decide +kernel
theorem dL_isSo_1 : decode cL_isSo 1 = .ok (.iload_n 1, 1) := by decide +kernel
theorem dL_isSo_2 : decode cL_isSo 2 = .ok (.iconst 4, 1) := by decide +kernel
theorem dL_isSo_3 : decode cL_isSo 3 = .ok (.invokestatic 58, 3) := by decide +kernel
theorem dL_isSo_6 : decode cL_isSo 6 = .ok (.aload_n 2, 1) := by decide +kernel
theorem dL_isSo_7 : decode cL_isSo 7 = .ok (.aload_n 3, 1) := by decide +kernel
theorem dL_isSo_8 : decode cL_isSo 8 = .ok (.aload 9, 2) := by decide +kernel
theorem dL_isSo_10 : decode cL_isSo 10 = .ok (.invokestatic 61, 3) := by decide +kernel
theorem dL_isSo_13 : decode cL_isSo 13 = .ok (.istore 10, 2) := by decide +kernel
theorem dL_isSo_15 : decode cL_isSo 15 = .ok (.iconst 0, 1) := by decide +kernel
theorem dL_isSo_16 : decode cL_isSo 16 = .ok (.istore 11, 2) := by decide +kernel
theorem dL_isSo_18 : decode cL_isSo 18 = .ok (.iload 11, 2) := by decide +kernel
theorem dL_isSo_20 : decode cL_isSo 20 = .ok (.aload 9, 2) := by decide +kernel
theorem dL_isSo_22 : decode cL_isSo 22 = .ok (.iconst 2, 1) := by decide +kernel
theorem dL_isSo_23 : decode cL_isSo 23 = .ok (.iaload, 1) := by decide +kernel
theorem dL_isSo_24 : decode cL_isSo 24 = .ok (.if_icmp .ge 146, 3) := by decide +kernel
theorem dL_isSo_27 : decode cL_isSo 27 = .ok (.iload 10, 2) := by decide +kernel
theorem dL_isSo_29 : decode cL_isSo 29 = .ok (.ifCond .eq 141, 3) := by decide +kernel
theorem dL_isSo_32 : decode cL_isSo 32 = .ok (.aload 9, 2) := by decide +kernel
theorem dL_isSo_34 : decode cL_isSo 34 = .ok (.iconst 5, 1) := by decide +kernel
theorem dL_isSo_35 : decode cL_isSo 35 = .ok (.iaload, 1) := by decide +kernel
theorem dL_isSo_36 : decode cL_isSo 36 = .ok (.iload 11, 2) := by decide +kernel
theorem dL_isSo_38 : decode cL_isSo 38 = .ok (.ishr, 1) := by decide +kernel
theorem dL_isSo_39 : decode cL_isSo 39 = .ok (.iconst 1, 1) := by decide +kernel
theorem dL_isSo_40 : decode cL_isSo 40 = .ok (.iand, 1) := by decide +kernel
theorem dL_isSo_41 : decode cL_isSo 41 = .ok (.iconst 1, 1) := by decide +kernel
theorem dL_isSo_42 : decode cL_isSo 42 = .ok (.if_icmp .ne 7, 3) := by decide +kernel
theorem dL_isSo_45 : decode cL_isSo 45 = .ok (.iconst 1, 1) := by decide +kernel
theorem dL_isSo_46 : decode cL_isSo 46 = .ok (.goto 4, 3) := by decide +kernel
theorem dL_isSo_49 : decode cL_isSo 49 = .ok (.iconst 0, 1) := by decide +kernel
theorem dL_isSo_50 : decode cL_isSo 50 = .ok (.istore 12, 2) := by decide +kernel
theorem dL_isSo_52 : decode cL_isSo 52 = .ok (.aload 9, 2) := by decide +kernel
theorem dL_isSo_54 : decode cL_isSo 54 = .ok (.bipush 10, 2) := by decide +kernel
theorem dL_isSo_56 : decode cL_isSo 56 = .ok (.aload_n 2, 1) := by decide +kernel
theorem dL_isSo_57 : decode cL_isSo 57 = .ok (.iconst 4, 1) := by decide +kernel
theorem dL_isSo_58 : decode cL_isSo 58 = .ok (.iload 11, 2) := by decide +kernel
theorem dL_isSo_60 : decode cL_isSo 60 = .ok (.imul, 1) := by decide +kernel
theorem dL_isSo_61 : decode cL_isSo 61 = .ok (.iconst 3, 1) := by decide +kernel
theorem dL_isSo_62 : decode cL_isSo 62 = .ok (.iadd, 1) := by decide +kernel
theorem dL_isSo_63 : decode cL_isSo 63 = .ok (.iaload, 1) := by decide +kernel
theorem dL_isSo_64 : decode cL_isSo 64 = .ok (.iadd, 1) := by decide +kernel
theorem dL_isSo_65 : decode cL_isSo 65 = .ok (.iaload, 1) := by decide +kernel
theorem dL_isSo_66 : decode cL_isSo 66 = .ok (.istore 13, 2) := by decide +kernel
theorem dL_isSo_68 : decode cL_isSo 68 = .ok (.aload_n 0, 1) := by decide +kernel
theorem dL_isSo_69 : decode cL_isSo 69 = .ok (.iload 11, 2) := by decide +kernel
theorem dL_isSo_71 : decode cL_isSo 71 = .ok (.invokevirtual 65, 3) := by decide +kernel
theorem dL_isSo_74 : decode cL_isSo 74 = .ok (.iload 12, 2) := by decide +kernel
theorem dL_isSo_76 : decode cL_isSo 76 = .ok (.ifCond .eq 7, 3) := by decide +kernel
theorem dL_isSo_79 : decode cL_isSo 79 = .ok (.iconst (-1), 1) := by decide +kernel
theorem dL_isSo_80 : decode cL_isSo 80 = .ok (.goto 7, 3) := by decide +kernel
theorem dL_isSo_83 : decode cL_isSo 83 = .ok (.aload_n 3, 1) := by decide +kernel
theorem dL_isSo_84 : decode cL_isSo 84 = .ok (.iload 11, 2) := by decide +kernel
theorem dL_isSo_86 : decode cL_isSo 86 = .ok (.iaload, 1) := by decide +kernel
theorem dL_isSo_87 : decode cL_isSo 87 = .ok (.if_icmp .ne 74, 3) := by decide +kernel
theorem dL_isSo_90 : decode cL_isSo 90 = .ok (.aload_n 0, 1) := by decide +kernel
theorem dL_isSo_91 : decode cL_isSo 91 = .ok (.iload 11, 2) := by decide +kernel
theorem dL_isSo_93 : decode cL_isSo 93 = .ok (.invokevirtual 68, 3) := by decide +kernel
theorem dL_isSo_96 : decode cL_isSo 96 = .ok (.iload 12, 2) := by decide +kernel
theorem dL_isSo_98 : decode cL_isSo 98 = .ok (.ifCond .ne 8, 3) := by decide +kernel
theorem dL_isSo_101 : decode cL_isSo 101 = .ok (.iload 13, 2) := by decide +kernel
theorem dL_isSo_103 : decode cL_isSo 103 = .ok (.ifCond .ge 7, 3) := by decide +kernel
theorem dL_isSo_106 : decode cL_isSo 106 = .ok (.iconst (-1), 1) := by decide +kernel
theorem dL_isSo_107 : decode cL_isSo 107 = .ok (.goto 47, 3) := by decide +kernel
theorem dL_isSo_110 : decode cL_isSo 110 = .ok (.aload_n 2, 1) := by decide +kernel
theorem dL_isSo_111 : decode cL_isSo 111 = .ok (.iconst 4, 1) := by decide +kernel
theorem dL_isSo_112 : decode cL_isSo 112 = .ok (.iload 11, 2) := by decide +kernel
theorem dL_isSo_114 : decode cL_isSo 114 = .ok (.imul, 1) := by decide +kernel
theorem dL_isSo_115 : decode cL_isSo 115 = .ok (.iconst 3, 1) := by decide +kernel
theorem dL_isSo_116 : decode cL_isSo 116 = .ok (.iadd, 1) := by decide +kernel
theorem dL_isSo_117 : decode cL_isSo 117 = .ok (.iaload, 1) := by decide +kernel
theorem dL_isSo_118 : decode cL_isSo 118 = .ok (.aload_n 2, 1) := by decide +kernel
theorem dL_isSo_119 : decode cL_isSo 119 = .ok (.iconst 4, 1) := by decide +kernel
theorem dL_isSo_120 : decode cL_isSo 120 = .ok (.iload 11, 2) := by decide +kernel
theorem dL_isSo_122 : decode cL_isSo 122 = .ok (.imul, 1) := by decide +kernel
theorem dL_isSo_123 : decode cL_isSo 123 = .ok (.iconst 1, 1) := by decide +kernel
theorem dL_isSo_124 : decode cL_isSo 124 = .ok (.iadd, 1) := by decide +kernel
theorem dL_isSo_125 : decode cL_isSo 125 = .ok (.iaload, 1) := by decide +kernel
theorem dL_isSo_126 : decode cL_isSo 126 = .ok (.aload_n 2, 1) := by decide +kernel
theorem dL_isSo_127 : decode cL_isSo 127 = .ok (.iconst 4, 1) := by decide +kernel
theorem dL_isSo_128 : decode cL_isSo 128 = .ok (.iload 11, 2) := by decide +kernel
theorem dL_isSo_130 : decode cL_isSo 130 = .ok (.imul, 1) := by decide +kernel
theorem dL_isSo_131 : decode cL_isSo 131 = .ok (.iconst 2, 1) := by decide +kernel
theorem dL_isSo_132 : decode cL_isSo 132 = .ok (.iadd, 1) := by decide +kernel
theorem dL_isSo_133 : decode cL_isSo 133 = .ok (.iaload, 1) := by decide +kernel
theorem dL_isSo_134 : decode cL_isSo 134 = .ok (.aload 4, 2) := by decide +kernel
theorem dL_isSo_136 : decode cL_isSo 136 = .ok (.aload 9, 2) := by decide +kernel
theorem dL_isSo_138 : decode cL_isSo 138 = .ok (.invokestatic 71, 3) := by decide +kernel
theorem dL_isSo_141 : decode cL_isSo 141 = .ok (.aload_n 3, 1) := by decide +kernel
theorem dL_isSo_142 : decode cL_isSo 142 = .ok (.iload 11, 2) := by decide +kernel
theorem dL_isSo_144 : decode cL_isSo 144 = .ok (.iaload, 1) := by decide +kernel
theorem dL_isSo_145 : decode cL_isSo 145 = .ok (.aload 6, 2) := by decide +kernel
theorem dL_isSo_147 : decode cL_isSo 147 = .ok (.aload 7, 2) := by decide +kernel
theorem dL_isSo_149 : decode cL_isSo 149 = .ok (.aload 8, 2) := by decide +kernel
theorem dL_isSo_151 : decode cL_isSo 151 = .ok (.invokestatic 75, 3) := by decide +kernel
theorem dL_isSo_154 : decode cL_isSo 154 = .ok (.if_icmp .ne 7, 3) := by decide +kernel
theorem dL_isSo_157 : decode cL_isSo 157 = .ok (.iconst 1, 1) := by decide +kernel
theorem dL_isSo_158 : decode cL_isSo 158 = .ok (.goto 4, 3) := by decide +kernel
theorem dL_isSo_161 : decode cL_isSo 161 = .ok (.iconst 0, 1) := by decide +kernel
theorem dL_isSo_162 : decode cL_isSo 162 = .ok (.istore 10, 2) := by decide +kernel
theorem dL_isSo_164 : decode cL_isSo 164 = .ok (.iinc 11 1, 3) := by decide +kernel
theorem dL_isSo_167 : decode cL_isSo 167 = .ok (.goto (-149), 3) := by decide +kernel
theorem dL_isSo_170 : decode cL_isSo 170 = .ok (.iconst 0, 1) := by decide +kernel
theorem dL_isSo_171 : decode cL_isSo 171 = .ok (.istore 11, 2) := by decide +kernel
theorem dL_isSo_173 : decode cL_isSo 173 = .ok (.iload 11, 2) := by decide +kernel
theorem dL_isSo_175 : decode cL_isSo 175 = .ok (.aload 9, 2) := by decide +kernel
theorem dL_isSo_177 : decode cL_isSo 177 = .ok (.iconst 3, 1) := by decide +kernel
theorem dL_isSo_178 : decode cL_isSo 178 = .ok (.iaload, 1) := by decide +kernel
theorem dL_isSo_179 : decode cL_isSo 179 = .ok (.if_icmp .ge 48, 3) := by decide +kernel
theorem dL_isSo_182 : decode cL_isSo 182 = .ok (.iload 10, 2) := by decide +kernel
theorem dL_isSo_184 : decode cL_isSo 184 = .ok (.ifCond .eq 43, 3) := by decide +kernel
theorem dL_isSo_187 : decode cL_isSo 187 = .ok (.aload_n 0, 1) := by decide +kernel
theorem dL_isSo_188 : decode cL_isSo 188 = .ok (.iload 11, 2) := by decide +kernel
theorem dL_isSo_190 : decode cL_isSo 190 = .ok (.invokevirtual 78, 3) := by decide +kernel
theorem dL_isSo_193 : decode cL_isSo 193 = .ok (.aload 9, 2) := by decide +kernel
theorem dL_isSo_195 : decode cL_isSo 195 = .ok (.bipush 6, 2) := by decide +kernel
theorem dL_isSo_197 : decode cL_isSo 197 = .ok (.iaload, 1) := by decide +kernel
theorem dL_isSo_198 : decode cL_isSo 198 = .ok (.iload 11, 2) := by decide +kernel
theorem dL_isSo_200 : decode cL_isSo 200 = .ok (.ishr, 1) := by decide +kernel
theorem dL_isSo_201 : decode cL_isSo 201 = .ok (.iconst 1, 1) := by decide +kernel
theorem dL_isSo_202 : decode cL_isSo 202 = .ok (.iand, 1) := by decide +kernel
theorem dL_isSo_203 : decode cL_isSo 203 = .ok (.ifCond .ne 7, 3) := by decide +kernel
theorem dL_isSo_206 : decode cL_isSo 206 = .ok (.iconst 1, 1) := by decide +kernel
theorem dL_isSo_207 : decode cL_isSo 207 = .ok (.goto 4, 3) := by decide +kernel
theorem dL_isSo_210 : decode cL_isSo 210 = .ok (.iconst 0, 1) := by decide +kernel
theorem dL_isSo_211 : decode cL_isSo 211 = .ok (.if_icmp .ne 7, 3) := by decide +kernel
theorem dL_isSo_214 : decode cL_isSo 214 = .ok (.iconst 1, 1) := by decide +kernel
theorem dL_isSo_215 : decode cL_isSo 215 = .ok (.goto 4, 3) := by decide +kernel
theorem dL_isSo_218 : decode cL_isSo 218 = .ok (.iconst 0, 1) := by decide +kernel
theorem dL_isSo_219 : decode cL_isSo 219 = .ok (.istore 10, 2) := by decide +kernel
theorem dL_isSo_221 : decode cL_isSo 221 = .ok (.iinc 11 1, 3) := by decide +kernel
theorem dL_isSo_224 : decode cL_isSo 224 = .ok (.goto (-51), 3) := by decide +kernel
theorem dL_isSo_227 : decode cL_isSo 227 = .ok (.iconst 0, 1) := by decide +kernel
theorem dL_isSo_228 : decode cL_isSo 228 = .ok (.istore 11, 2) := by decide +kernel
theorem dL_isSo_230 : decode cL_isSo 230 = .ok (.iload 11, 2) := by decide +kernel
theorem dL_isSo_232 : decode cL_isSo 232 = .ok (.aload 9, 2) := by decide +kernel
theorem dL_isSo_234 : decode cL_isSo 234 = .ok (.iconst 4, 1) := by decide +kernel
theorem dL_isSo_235 : decode cL_isSo 235 = .ok (.iaload, 1) := by decide +kernel
theorem dL_isSo_236 : decode cL_isSo 236 = .ok (.if_icmp .ge 57, 3) := by decide +kernel
theorem dL_isSo_239 : decode cL_isSo 239 = .ok (.iload 10, 2) := by decide +kernel
theorem dL_isSo_241 : decode cL_isSo 241 = .ok (.ifCond .eq 52, 3) := by decide +kernel
theorem dL_isSo_244 : decode cL_isSo 244 = .ok (.aload_n 0, 1) := by decide +kernel
theorem dL_isSo_245 : decode cL_isSo 245 = .ok (.iload 11, 2) := by decide +kernel
theorem dL_isSo_247 : decode cL_isSo 247 = .ok (.invokevirtual 82, 3) := by decide +kernel
theorem dL_isSo_250 : decode cL_isSo 250 = .ok (.aload 9, 2) := by decide +kernel
theorem dL_isSo_252 : decode cL_isSo 252 = .ok (.iconst 5, 1) := by decide +kernel
theorem dL_isSo_253 : decode cL_isSo 253 = .ok (.iaload, 1) := by decide +kernel
theorem dL_isSo_254 : decode cL_isSo 254 = .ok (.aload 5, 2) := by decide +kernel
theorem dL_isSo_256 : decode cL_isSo 256 = .ok (.iload 11, 2) := by decide +kernel
theorem dL_isSo_258 : decode cL_isSo 258 = .ok (.iaload, 1) := by decide +kernel
theorem dL_isSo_259 : decode cL_isSo 259 = .ok (.ishr, 1) := by decide +kernel
theorem dL_isSo_260 : decode cL_isSo 260 = .ok (.iconst 1, 1) := by decide +kernel
theorem dL_isSo_261 : decode cL_isSo 261 = .ok (.iand, 1) := by decide +kernel
theorem dL_isSo_262 : decode cL_isSo 262 = .ok (.iconst 1, 1) := by decide +kernel
theorem dL_isSo_263 : decode cL_isSo 263 = .ok (.if_icmp .ne 7, 3) := by decide +kernel
theorem dL_isSo_266 : decode cL_isSo 266 = .ok (.iconst (-1), 1) := by decide +kernel
theorem dL_isSo_267 : decode cL_isSo 267 = .ok (.goto 10, 3) := by decide +kernel
theorem dL_isSo_270 : decode cL_isSo 270 = .ok (.aload_n 3, 1) := by decide +kernel
theorem dL_isSo_271 : decode cL_isSo 271 = .ok (.aload 5, 2) := by decide +kernel
theorem dL_isSo_273 : decode cL_isSo 273 = .ok (.iload 11, 2) := by decide +kernel
theorem dL_isSo_275 : decode cL_isSo 275 = .ok (.iaload, 1) := by decide +kernel
theorem dL_isSo_276 : decode cL_isSo 276 = .ok (.iaload, 1) := by decide +kernel
theorem dL_isSo_277 : decode cL_isSo 277 = .ok (.if_icmp .ne 7, 3) := by decide +kernel
theorem dL_isSo_280 : decode cL_isSo 280 = .ok (.iconst 1, 1) := by decide +kernel
theorem dL_isSo_281 : decode cL_isSo 281 = .ok (.goto 4, 3) := by decide +kernel
theorem dL_isSo_284 : decode cL_isSo 284 = .ok (.iconst 0, 1) := by decide +kernel
theorem dL_isSo_285 : decode cL_isSo 285 = .ok (.istore 10, 2) := by decide +kernel
theorem dL_isSo_287 : decode cL_isSo 287 = .ok (.iinc 11 1, 3) := by decide +kernel
theorem dL_isSo_290 : decode cL_isSo 290 = .ok (.goto (-60), 3) := by decide +kernel
theorem dL_isSo_293 : decode cL_isSo 293 = .ok (.iconst 0, 1) := by decide +kernel
theorem dL_isSo_294 : decode cL_isSo 294 = .ok (.istore 11, 2) := by decide +kernel
theorem dL_isSo_296 : decode cL_isSo 296 = .ok (.iload 11, 2) := by decide +kernel
theorem dL_isSo_298 : decode cL_isSo 298 = .ok (.iconst 3, 1) := by decide +kernel
theorem dL_isSo_299 : decode cL_isSo 299 = .ok (.if_icmp .ge 46, 3) := by decide +kernel
theorem dL_isSo_302 : decode cL_isSo 302 = .ok (.iload 10, 2) := by decide +kernel
theorem dL_isSo_304 : decode cL_isSo 304 = .ok (.ifCond .eq 41, 3) := by decide +kernel
theorem dL_isSo_307 : decode cL_isSo 307 = .ok (.aload_n 0, 1) := by decide +kernel
theorem dL_isSo_308 : decode cL_isSo 308 = .ok (.iload 11, 2) := by decide +kernel
theorem dL_isSo_310 : decode cL_isSo 310 = .ok (.invokevirtual 85, 3) := by decide +kernel
theorem dL_isSo_313 : decode cL_isSo 313 = .ok (.aload 9, 2) := by decide +kernel
theorem dL_isSo_315 : decode cL_isSo 315 = .ok (.bipush 7, 2) := by decide +kernel
theorem dL_isSo_317 : decode cL_isSo 317 = .ok (.iload 11, 2) := by decide +kernel
theorem dL_isSo_319 : decode cL_isSo 319 = .ok (.iadd, 1) := by decide +kernel
theorem dL_isSo_320 : decode cL_isSo 320 = .ok (.iaload, 1) := by decide +kernel
theorem dL_isSo_321 : decode cL_isSo 321 = .ok (.aload 9, 2) := by decide +kernel
theorem dL_isSo_323 : decode cL_isSo 323 = .ok (.iconst 5, 1) := by decide +kernel
theorem dL_isSo_324 : decode cL_isSo 324 = .ok (.iaload, 1) := by decide +kernel
theorem dL_isSo_325 : decode cL_isSo 325 = .ok (.iand, 1) := by decide +kernel
theorem dL_isSo_326 : decode cL_isSo 326 = .ok (.invokestatic 88, 3) := by decide +kernel
theorem dL_isSo_329 : decode cL_isSo 329 = .ok (.if_icmp .ne 7, 3) := by decide +kernel
theorem dL_isSo_332 : decode cL_isSo 332 = .ok (.iconst 1, 1) := by decide +kernel
theorem dL_isSo_333 : decode cL_isSo 333 = .ok (.goto 4, 3) := by decide +kernel
theorem dL_isSo_336 : decode cL_isSo 336 = .ok (.iconst 0, 1) := by decide +kernel
theorem dL_isSo_337 : decode cL_isSo 337 = .ok (.istore 10, 2) := by decide +kernel
theorem dL_isSo_339 : decode cL_isSo 339 = .ok (.iinc 11 1, 3) := by decide +kernel
theorem dL_isSo_342 : decode cL_isSo 342 = .ok (.goto (-46), 3) := by decide +kernel
theorem dL_isSo_345 : decode cL_isSo 345 = .ok (.iload_n 1, 1) := by decide +kernel
theorem dL_isSo_346 : decode cL_isSo 346 = .ok (.iconst 2, 1) := by decide +kernel
theorem dL_isSo_347 : decode cL_isSo 347 = .ok (.ishr, 1) := by decide +kernel
theorem dL_isSo_348 : decode cL_isSo 348 = .ok (.bipush 10, 2) := by decide +kernel
theorem dL_isSo_350 : decode cL_isSo 350 = .ok (.invokestatic 58, 3) := by decide +kernel
theorem dL_isSo_353 : decode cL_isSo 353 = .ok (.istore 11, 2) := by decide +kernel
theorem dL_isSo_355 : decode cL_isSo 355 = .ok (.iload_n 1, 1) := by decide +kernel
theorem dL_isSo_356 : decode cL_isSo 356 = .ok (.iconst 5, 1) := by decide +kernel
theorem dL_isSo_357 : decode cL_isSo 357 = .ok (.ishr, 1) := by decide +kernel
theorem dL_isSo_358 : decode cL_isSo 358 = .ok (.sipush 301, 3) := by decide +kernel
theorem dL_isSo_361 : decode cL_isSo 361 = .ok (.invokestatic 58, 3) := by decide +kernel
theorem dL_isSo_364 : decode cL_isSo 364 = .ok (.istore 12, 2) := by decide +kernel
theorem dL_isSo_366 : decode cL_isSo 366 = .ok (.iconst 0, 1) := by decide +kernel
theorem dL_isSo_367 : decode cL_isSo 367 = .ok (.istore 13, 2) := by decide +kernel
theorem dL_isSo_369 : decode cL_isSo 369 = .ok (.iload 13, 2) := by decide +kernel
theorem dL_isSo_371 : decode cL_isSo 371 = .ok (.iconst 4, 1) := by decide +kernel
theorem dL_isSo_372 : decode cL_isSo 372 = .ok (.if_icmp .ge 47, 3) := by decide +kernel
theorem dL_isSo_375 : decode cL_isSo 375 = .ok (.iload 10, 2) := by decide +kernel
theorem dL_isSo_377 : decode cL_isSo 377 = .ok (.ifCond .eq 42, 3) := by decide +kernel
theorem dL_isSo_380 : decode cL_isSo 380 = .ok (.aload_n 0, 1) := by decide +kernel
theorem dL_isSo_381 : decode cL_isSo 381 = .ok (.iload 13, 2) := by decide +kernel
theorem dL_isSo_383 : decode cL_isSo 383 = .ok (.iload 11, 2) := by decide +kernel
theorem dL_isSo_385 : decode cL_isSo 385 = .ok (.iload 12, 2) := by decide +kernel
theorem dL_isSo_387 : decode cL_isSo 387 = .ok (.invokevirtual 91, 3) := by decide +kernel
theorem dL_isSo_390 : decode cL_isSo 390 = .ok (.iload 13, 2) := by decide +kernel
theorem dL_isSo_392 : decode cL_isSo 392 = .ok (.iload 11, 2) := by decide +kernel
theorem dL_isSo_394 : decode cL_isSo 394 = .ok (.iload 12, 2) := by decide +kernel
theorem dL_isSo_396 : decode cL_isSo 396 = .ok (.aload 4, 2) := by decide +kernel
theorem dL_isSo_398 : decode cL_isSo 398 = .ok (.aload 9, 2) := by decide +kernel
theorem dL_isSo_400 : decode cL_isSo 400 = .ok (.invokestatic 71, 3) := by decide +kernel
theorem dL_isSo_403 : decode cL_isSo 403 = .ok (.if_icmp .ne 7, 3) := by decide +kernel
theorem dL_isSo_406 : decode cL_isSo 406 = .ok (.iconst 1, 1) := by decide +kernel
theorem dL_isSo_407 : decode cL_isSo 407 = .ok (.goto 4, 3) := by decide +kernel
theorem dL_isSo_410 : decode cL_isSo 410 = .ok (.iconst 0, 1) := by decide +kernel
theorem dL_isSo_411 : decode cL_isSo 411 = .ok (.istore 10, 2) := by decide +kernel
theorem dL_isSo_413 : decode cL_isSo 413 = .ok (.iinc 13 1, 3) := by decide +kernel
theorem dL_isSo_416 : decode cL_isSo 416 = .ok (.goto (-47), 3) := by decide +kernel
theorem dL_isSo_419 : decode cL_isSo 419 = .ok (.iload 10, 2) := by decide +kernel
theorem dL_isSo_421 : decode cL_isSo 421 = .ok (.ireturn, 1) := by decide +kernel
theorem dL_drafts_0 : decode cL_drafts 0 = .ok (.iload_n 1, 1) := by decide +kernel
theorem dL_drafts_1 : decode cL_drafts 1 = .ok (.iconst 4, 1) := by decide +kernel
theorem dL_drafts_2 : decode cL_drafts 2 = .ok (.if_icmp .lt 16, 3) := by decide +kernel
theorem dL_drafts_5 : decode cL_drafts 5 = .ok (.aload 5, 2) := by decide +kernel
theorem dL_drafts_7 : decode cL_drafts 7 = .ok (.iconst 0, 1) := by decide +kernel
theorem dL_drafts_8 : decode cL_drafts 8 = .ok (.iaload, 1) := by decide +kernel
theorem dL_drafts_9 : decode cL_drafts 9 = .ok (.ifCond .ne 126, 3) := by decide +kernel
theorem dL_drafts_12 : decode cL_drafts 12 = .ok (.iload_n 1, 1) := by decide +kernel
theorem dL_drafts_13 : decode cL_drafts 13 = .ok (.bipush 6, 2) := by decide +kernel
theorem dL_drafts_15 : decode cL_drafts 15 = .ok (.if_icmp .ge 120, 3) := by decide +kernel
theorem dL_drafts_18 : decode cL_drafts 18 = .ok (.iload_n 2, 1) := by decide +kernel
theorem dL_drafts_19 : decode cL_drafts 19 = .ok (.iload_n 2, 1) := by decide +kernel
theorem dL_drafts_20 : decode cL_drafts 20 = .ok (.bipush 13, 2) := by decide +kernel
theorem dL_drafts_22 : decode cL_drafts 22 = .ok (.ishr, 1) := by decide +kernel
theorem dL_drafts_23 : decode cL_drafts 23 = .ok (.iconst 3, 1) := by decide +kernel
theorem dL_drafts_24 : decode cL_drafts 24 = .ok (.invokestatic 58, 3) := by decide +kernel
theorem dL_drafts_27 : decode cL_drafts 27 = .ok (.ifCond .ne 8, 3) := by decide +kernel
theorem dL_drafts_30 : decode cL_drafts 30 = .ok (.bipush 8, 2) := by decide +kernel
theorem dL_drafts_32 : decode cL_drafts 32 = .ok (.goto 4, 3) := by decide +kernel
theorem dL_drafts_35 : decode cL_drafts 35 = .ok (.iconst 3, 1) := by decide +kernel
theorem dL_drafts_36 : decode cL_drafts 36 = .ok (.invokestatic 58, 3) := by decide +kernel
theorem dL_drafts_39 : decode cL_drafts 39 = .ok (.istore 6, 2) := by decide +kernel
theorem dL_drafts_41 : decode cL_drafts 41 = .ok (.aload 5, 2) := by decide +kernel
theorem dL_drafts_43 : decode cL_drafts 43 = .ok (.iconst 0, 1) := by decide +kernel
theorem dL_drafts_44 : decode cL_drafts 44 = .ok (.iaload, 1) := by decide +kernel
theorem dL_drafts_45 : decode cL_drafts 45 = .ok (.bipush 8, 2) := by decide +kernel
theorem dL_drafts_47 : decode cL_drafts 47 = .ok (.if_icmp .ge 7, 3) := by decide +kernel
theorem dL_drafts_50 : decode cL_drafts 50 = .ok (.iconst 1, 1) := by decide +kernel
theorem dL_drafts_51 : decode cL_drafts 51 = .ok (.goto 4, 3) := by decide +kernel
theorem dL_drafts_54 : decode cL_drafts 54 = .ok (.iconst 0, 1) := by decide +kernel
theorem dL_drafts_55 : decode cL_drafts 55 = .ok (.istore 7, 2) := by decide +kernel
theorem dL_drafts_57 : decode cL_drafts 57 = .ok (.aload 5, 2) := by decide +kernel
theorem dL_drafts_59 : decode cL_drafts 59 = .ok (.iconst 1, 1) := by decide +kernel
theorem dL_drafts_60 : decode cL_drafts 60 = .ok (.iload 7, 2) := by decide +kernel
theorem dL_drafts_62 : decode cL_drafts 62 = .ok (.ifCond .eq 18, 3) := by decide +kernel
theorem dL_drafts_65 : decode cL_drafts 65 = .ok (.bipush 9, 2) := by decide +kernel
theorem dL_drafts_67 : decode cL_drafts 67 = .ok (.aload 5, 2) := by decide +kernel
theorem dL_drafts_69 : decode cL_drafts 69 = .ok (.iconst 1, 1) := by decide +kernel
theorem dL_drafts_70 : decode cL_drafts 70 = .ok (.iaload, 1) := by decide +kernel
theorem dL_drafts_71 : decode cL_drafts 71 = .ok (.imul, 1) := by decide +kernel
theorem dL_drafts_72 : decode cL_drafts 72 = .ok (.iload 6, 2) := by decide +kernel
theorem dL_drafts_74 : decode cL_drafts 74 = .ok (.iadd, 1) := by decide +kernel
theorem dL_drafts_75 : decode cL_drafts 75 = .ok (.iconst 1, 1) := by decide +kernel
theorem dL_drafts_76 : decode cL_drafts 76 = .ok (.iadd, 1) := by decide +kernel
theorem dL_drafts_77 : decode cL_drafts 77 = .ok (.goto 7, 3) := by decide +kernel
theorem dL_drafts_80 : decode cL_drafts 80 = .ok (.aload 5, 2) := by decide +kernel
theorem dL_drafts_82 : decode cL_drafts 82 = .ok (.iconst 1, 1) := by decide +kernel
theorem dL_drafts_83 : decode cL_drafts 83 = .ok (.iaload, 1) := by decide +kernel
theorem dL_drafts_84 : decode cL_drafts 84 = .ok (.iastore, 1) := by decide +kernel
theorem dL_drafts_85 : decode cL_drafts 85 = .ok (.aload 5, 2) := by decide +kernel
theorem dL_drafts_87 : decode cL_drafts 87 = .ok (.iconst 0, 1) := by decide +kernel
theorem dL_drafts_88 : decode cL_drafts 88 = .ok (.dup2, 1) := by decide +kernel
theorem dL_drafts_89 : decode cL_drafts 89 = .ok (.iaload, 1) := by decide +kernel
theorem dL_drafts_90 : decode cL_drafts 90 = .ok (.iload 7, 2) := by decide +kernel
theorem dL_drafts_92 : decode cL_drafts 92 = .ok (.ifCond .eq 7, 3) := by decide +kernel
theorem dL_drafts_95 : decode cL_drafts 95 = .ok (.iconst 1, 1) := by decide +kernel
theorem dL_drafts_96 : decode cL_drafts 96 = .ok (.goto 4, 3) := by decide +kernel
theorem dL_drafts_99 : decode cL_drafts 99 = .ok (.iconst 0, 1) := by decide +kernel
theorem dL_drafts_100 : decode cL_drafts 100 = .ok (.iadd, 1) := by decide +kernel
theorem dL_drafts_101 : decode cL_drafts 101 = .ok (.iastore, 1) := by decide +kernel
theorem dL_drafts_102 : decode cL_drafts 102 = .ok (.aload_n 0, 1) := by decide +kernel
theorem dL_drafts_103 : decode cL_drafts 103 = .ok (.iconst 0, 1) := by decide +kernel
theorem dL_drafts_104 : decode cL_drafts 104 = .ok (.iload 6, 2) := by decide +kernel
theorem dL_drafts_106 : decode cL_drafts 106 = .ok (.iconst 0, 1) := by decide +kernel
theorem dL_drafts_107 : decode cL_drafts 107 = .ok (.iconst 0, 1) := by decide +kernel
theorem dL_drafts_108 : decode cL_drafts 108 = .ok (.iconst 0, 1) := by decide +kernel
theorem dL_drafts_109 : decode cL_drafts 109 = .ok (.invokestatic 94, 3) := by decide +kernel
theorem dL_drafts_112 : decode cL_drafts 112 = .ok (.iload 7, 2) := by decide +kernel
theorem dL_drafts_114 : decode cL_drafts 114 = .ok (.ifCond .eq 10, 3) := by decide +kernel
theorem dL_drafts_117 : decode cL_drafts 117 = .ok (.aload 5, 2) := by decide +kernel
theorem dL_drafts_119 : decode cL_drafts 119 = .ok (.iconst 0, 1) := by decide +kernel
theorem dL_drafts_120 : decode cL_drafts 120 = .ok (.iaload, 1) := by decide +kernel
theorem dL_drafts_121 : decode cL_drafts 121 = .ok (.goto 5, 3) := by decide +kernel
theorem dL_drafts_124 : decode cL_drafts 124 = .ok (.bipush (-3), 2) := by decide +kernel
theorem dL_drafts_126 : decode cL_drafts 126 = .ok (.if_icmp .ne 7, 3) := by decide +kernel
theorem dL_drafts_129 : decode cL_drafts 129 = .ok (.iconst 1, 1) := by decide +kernel
theorem dL_drafts_130 : decode cL_drafts 130 = .ok (.goto 4, 3) := by decide +kernel
theorem dL_drafts_133 : decode cL_drafts 133 = .ok (.iconst 0, 1) := by decide +kernel
theorem dL_drafts_134 : decode cL_drafts 134 = .ok (.ireturn, 1) := by decide +kernel
theorem dL_drafts_135 : decode cL_drafts 135 = .ok (.iload_n 1, 1) := by decide +kernel
theorem dL_drafts_136 : decode cL_drafts 136 = .ok (.bipush 6, 2) := by decide +kernel
theorem dL_drafts_138 : decode cL_drafts 138 = .ok (.if_icmp .ne 93, 3) := by decide +kernel
theorem dL_drafts_141 : decode cL_drafts 141 = .ok (.iload_n 2, 1) := by decide +kernel
theorem dL_drafts_142 : decode cL_drafts 142 = .ok (.iconst 4, 1) := by decide +kernel
theorem dL_drafts_143 : decode cL_drafts 143 = .ok (.invokestatic 58, 3) := by decide +kernel
theorem dL_drafts_146 : decode cL_drafts 146 = .ok (.istore 6, 2) := by decide +kernel
theorem dL_drafts_148 : decode cL_drafts 148 = .ok (.aload 5, 2) := by decide +kernel
theorem dL_drafts_150 : decode cL_drafts 150 = .ok (.iconst 0, 1) := by decide +kernel
theorem dL_drafts_151 : decode cL_drafts 151 = .ok (.iaload, 1) := by decide +kernel
theorem dL_drafts_152 : decode cL_drafts 152 = .ok (.ifCond .ne 8, 3) := by decide +kernel
theorem dL_drafts_155 : decode cL_drafts 155 = .ok (.bipush (-3), 2) := by decide +kernel
theorem dL_drafts_157 : decode cL_drafts 157 = .ok (.goto 11, 3) := by decide +kernel
theorem dL_drafts_160 : decode cL_drafts 160 = .ok (.aload 5, 2) := by decide +kernel
theorem dL_drafts_162 : decode cL_drafts 162 = .ok (.bipush 10, 2) := by decide +kernel
theorem dL_drafts_164 : decode cL_drafts 164 = .ok (.iload 6, 2) := by decide +kernel
theorem dL_drafts_166 : decode cL_drafts 166 = .ok (.iadd, 1) := by decide +kernel
theorem dL_drafts_167 : decode cL_drafts 167 = .ok (.iaload, 1) := by decide +kernel
theorem dL_drafts_168 : decode cL_drafts 168 = .ok (.istore 7, 2) := by decide +kernel
theorem dL_drafts_170 : decode cL_drafts 170 = .ok (.aload 5, 2) := by decide +kernel
theorem dL_drafts_172 : decode cL_drafts 172 = .ok (.bipush 10, 2) := by decide +kernel
theorem dL_drafts_174 : decode cL_drafts 174 = .ok (.iload 6, 2) := by decide +kernel
theorem dL_drafts_176 : decode cL_drafts 176 = .ok (.iadd, 1) := by decide +kernel
theorem dL_drafts_177 : decode cL_drafts 177 = .ok (.aload 5, 2) := by decide +kernel
theorem dL_drafts_179 : decode cL_drafts 179 = .ok (.iconst 0, 1) := by decide +kernel
theorem dL_drafts_180 : decode cL_drafts 180 = .ok (.iaload, 1) := by decide +kernel
theorem dL_drafts_181 : decode cL_drafts 181 = .ok (.ifCond .ne 14, 3) := by decide +kernel
theorem dL_drafts_184 : decode cL_drafts 184 = .ok (.aload 5, 2) := by decide +kernel
theorem dL_drafts_186 : decode cL_drafts 186 = .ok (.bipush 10, 2) := by decide +kernel
theorem dL_drafts_188 : decode cL_drafts 188 = .ok (.iload 6, 2) := by decide +kernel
theorem dL_drafts_190 : decode cL_drafts 190 = .ok (.iadd, 1) := by decide +kernel
theorem dL_drafts_191 : decode cL_drafts 191 = .ok (.iaload, 1) := by decide +kernel
theorem dL_drafts_192 : decode cL_drafts 192 = .ok (.goto 7, 3) := by decide +kernel
theorem dL_drafts_195 : decode cL_drafts 195 = .ok (.aload 5, 2) := by decide +kernel
theorem dL_drafts_197 : decode cL_drafts 197 = .ok (.iconst 1, 1) := by decide +kernel
theorem dL_drafts_198 : decode cL_drafts 198 = .ok (.iaload, 1) := by decide +kernel
theorem dL_drafts_199 : decode cL_drafts 199 = .ok (.iastore, 1) := by decide +kernel
theorem dL_drafts_200 : decode cL_drafts 200 = .ok (.aload 5, 2) := by decide +kernel
theorem dL_drafts_202 : decode cL_drafts 202 = .ok (.iconst 0, 1) := by decide +kernel
theorem dL_drafts_203 : decode cL_drafts 203 = .ok (.iconst 0, 1) := by decide +kernel
theorem dL_drafts_204 : decode cL_drafts 204 = .ok (.iastore, 1) := by decide +kernel
theorem dL_drafts_205 : decode cL_drafts 205 = .ok (.aload 5, 2) := by decide +kernel
theorem dL_drafts_207 : decode cL_drafts 207 = .ok (.iconst 1, 1) := by decide +kernel
theorem dL_drafts_208 : decode cL_drafts 208 = .ok (.iconst 0, 1) := by decide +kernel
theorem dL_drafts_209 : decode cL_drafts 209 = .ok (.iastore, 1) := by decide +kernel
theorem dL_drafts_210 : decode cL_drafts 210 = .ok (.aload_n 0, 1) := by decide +kernel
theorem dL_drafts_211 : decode cL_drafts 211 = .ok (.iconst 2, 1) := by decide +kernel
theorem dL_drafts_212 : decode cL_drafts 212 = .ok (.iload 6, 2) := by decide +kernel
theorem dL_drafts_214 : decode cL_drafts 214 = .ok (.iconst 0, 1) := by decide +kernel
theorem dL_drafts_215 : decode cL_drafts 215 = .ok (.iconst 0, 1) := by decide +kernel
theorem dL_drafts_216 : decode cL_drafts 216 = .ok (.iconst 0, 1) := by decide +kernel
theorem dL_drafts_217 : decode cL_drafts 217 = .ok (.invokestatic 94, 3) := by decide +kernel
theorem dL_drafts_220 : decode cL_drafts 220 = .ok (.iload 7, 2) := by decide +kernel
theorem dL_drafts_222 : decode cL_drafts 222 = .ok (.if_icmp .ne 7, 3) := by decide +kernel
theorem dL_drafts_225 : decode cL_drafts 225 = .ok (.iconst 1, 1) := by decide +kernel
theorem dL_drafts_226 : decode cL_drafts 226 = .ok (.goto 4, 3) := by decide +kernel
theorem dL_drafts_229 : decode cL_drafts 229 = .ok (.iconst 0, 1) := by decide +kernel
theorem dL_drafts_230 : decode cL_drafts 230 = .ok (.ireturn, 1) := by decide +kernel
theorem dL_drafts_231 : decode cL_drafts 231 = .ok (.aload 5, 2) := by decide +kernel
theorem dL_drafts_233 : decode cL_drafts 233 = .ok (.iconst 2, 1) := by decide +kernel
theorem dL_drafts_234 : decode cL_drafts 234 = .ok (.iaload, 1) := by decide +kernel
theorem dL_drafts_235 : decode cL_drafts 235 = .ok (.bipush 16, 2) := by decide +kernel
theorem dL_drafts_237 : decode cL_drafts 237 = .ok (.if_icmp .ne 5, 3) := by decide +kernel
theorem dL_drafts_240 : decode cL_drafts 240 = .ok (.iconst 1, 1) := by decide +kernel
theorem dL_drafts_241 : decode cL_drafts 241 = .ok (.ireturn, 1) := by decide +kernel
theorem dL_drafts_242 : decode cL_drafts 242 = .ok (.iload_n 2, 1) := by decide +kernel
theorem dL_drafts_243 : decode cL_drafts 243 = .ok (.iload_n 2, 1) := by decide +kernel
theorem dL_drafts_244 : decode cL_drafts 244 = .ok (.bipush 13, 2) := by decide +kernel
theorem dL_drafts_246 : decode cL_drafts 246 = .ok (.ishr, 1) := by decide +kernel
theorem dL_drafts_247 : decode cL_drafts 247 = .ok (.iconst 3, 1) := by decide +kernel
theorem dL_drafts_248 : decode cL_drafts 248 = .ok (.invokestatic 58, 3) := by decide +kernel
theorem dL_drafts_251 : decode cL_drafts 251 = .ok (.ifCond .ne 8, 3) := by decide +kernel
theorem dL_drafts_254 : decode cL_drafts 254 = .ok (.bipush 8, 2) := by decide +kernel
theorem dL_drafts_256 : decode cL_drafts 256 = .ok (.goto 4, 3) := by decide +kernel
theorem dL_drafts_259 : decode cL_drafts 259 = .ok (.iconst 3, 1) := by decide +kernel
theorem dL_drafts_260 : decode cL_drafts 260 = .ok (.invokestatic 58, 3) := by decide +kernel
theorem dL_drafts_263 : decode cL_drafts 263 = .ok (.istore 6, 2) := by decide +kernel
theorem dL_drafts_265 : decode cL_drafts 265 = .ok (.iload_n 2, 1) := by decide +kernel
theorem dL_drafts_266 : decode cL_drafts 266 = .ok (.iconst 3, 1) := by decide +kernel
theorem dL_drafts_267 : decode cL_drafts 267 = .ok (.ishr, 1) := by decide +kernel
theorem dL_drafts_268 : decode cL_drafts 268 = .ok (.iload_n 2, 1) := by decide +kernel
theorem dL_drafts_269 : decode cL_drafts 269 = .ok (.bipush 12, 2) := by decide +kernel
theorem dL_drafts_271 : decode cL_drafts 271 = .ok (.ishr, 1) := by decide +kernel
theorem dL_drafts_272 : decode cL_drafts 272 = .ok (.iconst 3, 1) := by decide +kernel
theorem dL_drafts_273 : decode cL_drafts 273 = .ok (.invokestatic 58, 3) := by decide +kernel
theorem dL_drafts_276 : decode cL_drafts 276 = .ok (.ifCond .ne 8, 3) := by decide +kernel
theorem dL_drafts_279 : decode cL_drafts 279 = .ok (.bipush 10, 2) := by decide +kernel
theorem dL_drafts_281 : decode cL_drafts 281 = .ok (.goto 4, 3) := by decide +kernel
theorem dL_drafts_284 : decode cL_drafts 284 = .ok (.iconst 3, 1) := by decide +kernel
theorem dL_drafts_285 : decode cL_drafts 285 = .ok (.invokestatic 58, 3) := by decide +kernel
theorem dL_drafts_288 : decode cL_drafts 288 = .ok (.istore 7, 2) := by decide +kernel
theorem dL_drafts_290 : decode cL_drafts 290 = .ok (.iload_n 2, 1) := by decide +kernel
theorem dL_drafts_291 : decode cL_drafts 291 = .ok (.iconst 5, 1) := by decide +kernel
theorem dL_drafts_292 : decode cL_drafts 292 = .ok (.ishr, 1) := by decide +kernel
theorem dL_drafts_293 : decode cL_drafts 293 = .ok (.sipush 301, 3) := by decide +kernel
theorem dL_drafts_296 : decode cL_drafts 296 = .ok (.invokestatic 58, 3) := by decide +kernel
theorem dL_drafts_299 : decode cL_drafts 299 = .ok (.istore 8, 2) := by decide +kernel
theorem dL_drafts_301 : decode cL_drafts 301 = .ok (.iload_n 2, 1) := by decide +kernel
theorem dL_drafts_302 : decode cL_drafts 302 = .ok (.bipush 8, 2) := by decide +kernel
theorem dL_drafts_304 : decode cL_drafts 304 = .ok (.ishr, 1) := by decide +kernel
theorem dL_drafts_305 : decode cL_drafts 305 = .ok (.iload_n 2, 1) := by decide +kernel
theorem dL_drafts_306 : decode cL_drafts 306 = .ok (.bipush 11, 2) := by decide +kernel
theorem dL_drafts_308 : decode cL_drafts 308 = .ok (.ishr, 1) := by decide +kernel
theorem dL_drafts_309 : decode cL_drafts 309 = .ok (.iconst 3, 1) := by decide +kernel
theorem dL_drafts_310 : decode cL_drafts 310 = .ok (.invokestatic 58, 3) := by decide +kernel
theorem dL_drafts_313 : decode cL_drafts 313 = .ok (.ifCond .ne 7, 3) := by decide +kernel
theorem dL_drafts_316 : decode cL_drafts 316 = .ok (.iconst 4, 1) := by decide +kernel
theorem dL_drafts_317 : decode cL_drafts 317 = .ok (.goto 4, 3) := by decide +kernel
theorem dL_drafts_320 : decode cL_drafts 320 = .ok (.iconst 2, 1) := by decide +kernel
theorem dL_drafts_321 : decode cL_drafts 321 = .ok (.invokestatic 58, 3) := by decide +kernel
theorem dL_drafts_324 : decode cL_drafts 324 = .ok (.istore 9, 2) := by decide +kernel
theorem dL_drafts_326 : decode cL_drafts 326 = .ok (.aload 5, 2) := by decide +kernel
theorem dL_drafts_328 : decode cL_drafts 328 = .ok (.iconst 0, 1) := by decide +kernel
theorem dL_drafts_329 : decode cL_drafts 329 = .ok (.iaload, 1) := by decide +kernel
theorem dL_drafts_330 : decode cL_drafts 330 = .ok (.ifCond .le 7, 3) := by decide +kernel
theorem dL_drafts_333 : decode cL_drafts 333 = .ok (.iconst 1, 1) := by decide +kernel
theorem dL_drafts_334 : decode cL_drafts 334 = .ok (.goto 4, 3) := by decide +kernel
theorem dL_drafts_337 : decode cL_drafts 337 = .ok (.iconst 0, 1) := by decide +kernel
theorem dL_drafts_338 : decode cL_drafts 338 = .ok (.istore 10, 2) := by decide +kernel
theorem dL_drafts_340 : decode cL_drafts 340 = .ok (.iload 10, 2) := by decide +kernel
theorem dL_drafts_342 : decode cL_drafts 342 = .ok (.ifCond .eq 78, 3) := by decide +kernel
theorem dL_drafts_345 : decode cL_drafts 345 = .ok (.aload_n 3, 1) := by decide +kernel
theorem dL_drafts_346 : decode cL_drafts 346 = .ok (.iconst 4, 1) := by decide +kernel
theorem dL_drafts_347 : decode cL_drafts 347 = .ok (.aload 5, 2) := by decide +kernel
theorem dL_drafts_349 : decode cL_drafts 349 = .ok (.iconst 2, 1) := by decide +kernel
theorem dL_drafts_350 : decode cL_drafts 350 = .ok (.iaload, 1) := by decide +kernel
theorem dL_drafts_351 : decode cL_drafts 351 = .ok (.imul, 1) := by decide +kernel
theorem dL_drafts_352 : decode cL_drafts 352 = .ok (.iload 6, 2) := by decide +kernel
theorem dL_drafts_354 : decode cL_drafts 354 = .ok (.iastore, 1) := by decide +kernel
theorem dL_drafts_355 : decode cL_drafts 355 = .ok (.aload_n 3, 1) := by decide +kernel
theorem dL_drafts_356 : decode cL_drafts 356 = .ok (.iconst 4, 1) := by decide +kernel
theorem dL_drafts_357 : decode cL_drafts 357 = .ok (.aload 5, 2) := by decide +kernel
theorem dL_drafts_359 : decode cL_drafts 359 = .ok (.iconst 2, 1) := by decide +kernel
theorem dL_drafts_360 : decode cL_drafts 360 = .ok (.iaload, 1) := by decide +kernel
theorem dL_drafts_361 : decode cL_drafts 361 = .ok (.imul, 1) := by decide +kernel
theorem dL_drafts_362 : decode cL_drafts 362 = .ok (.iconst 1, 1) := by decide +kernel
theorem dL_drafts_363 : decode cL_drafts 363 = .ok (.iadd, 1) := by decide +kernel
theorem dL_drafts_364 : decode cL_drafts 364 = .ok (.iload 7, 2) := by decide +kernel
theorem dL_drafts_366 : decode cL_drafts 366 = .ok (.iastore, 1) := by decide +kernel
theorem dL_drafts_367 : decode cL_drafts 367 = .ok (.aload_n 3, 1) := by decide +kernel
theorem dL_drafts_368 : decode cL_drafts 368 = .ok (.iconst 4, 1) := by decide +kernel
theorem dL_drafts_369 : decode cL_drafts 369 = .ok (.aload 5, 2) := by decide +kernel
theorem dL_drafts_371 : decode cL_drafts 371 = .ok (.iconst 2, 1) := by decide +kernel
theorem dL_drafts_372 : decode cL_drafts 372 = .ok (.iaload, 1) := by decide +kernel
theorem dL_drafts_373 : decode cL_drafts 373 = .ok (.imul, 1) := by decide +kernel
theorem dL_drafts_374 : decode cL_drafts 374 = .ok (.iconst 2, 1) := by decide +kernel
theorem dL_drafts_375 : decode cL_drafts 375 = .ok (.iadd, 1) := by decide +kernel
theorem dL_drafts_376 : decode cL_drafts 376 = .ok (.iload 8, 2) := by decide +kernel
theorem dL_drafts_378 : decode cL_drafts 378 = .ok (.iastore, 1) := by decide +kernel
theorem dL_drafts_379 : decode cL_drafts 379 = .ok (.aload_n 3, 1) := by decide +kernel
theorem dL_drafts_380 : decode cL_drafts 380 = .ok (.iconst 4, 1) := by decide +kernel
theorem dL_drafts_381 : decode cL_drafts 381 = .ok (.aload 5, 2) := by decide +kernel
theorem dL_drafts_383 : decode cL_drafts 383 = .ok (.iconst 2, 1) := by decide +kernel
theorem dL_drafts_384 : decode cL_drafts 384 = .ok (.iaload, 1) := by decide +kernel
theorem dL_drafts_385 : decode cL_drafts 385 = .ok (.imul, 1) := by decide +kernel
theorem dL_drafts_386 : decode cL_drafts 386 = .ok (.iconst 3, 1) := by decide +kernel
theorem dL_drafts_387 : decode cL_drafts 387 = .ok (.iadd, 1) := by decide +kernel
theorem dL_drafts_388 : decode cL_drafts 388 = .ok (.iload 9, 2) := by decide +kernel
theorem dL_drafts_390 : decode cL_drafts 390 = .ok (.iastore, 1) := by decide +kernel
theorem dL_drafts_391 : decode cL_drafts 391 = .ok (.aload 4, 2) := by decide +kernel
theorem dL_drafts_393 : decode cL_drafts 393 = .ok (.aload 5, 2) := by decide +kernel
theorem dL_drafts_395 : decode cL_drafts 395 = .ok (.iconst 2, 1) := by decide +kernel
theorem dL_drafts_396 : decode cL_drafts 396 = .ok (.iaload, 1) := by decide +kernel
theorem dL_drafts_397 : decode cL_drafts 397 = .ok (.aload 5, 2) := by decide +kernel
theorem dL_drafts_399 : decode cL_drafts 399 = .ok (.iconst 1, 1) := by decide +kernel
theorem dL_drafts_400 : decode cL_drafts 400 = .ok (.iaload, 1) := by decide +kernel
theorem dL_drafts_401 : decode cL_drafts 401 = .ok (.iastore, 1) := by decide +kernel
theorem dL_drafts_402 : decode cL_drafts 402 = .ok (.aload 5, 2) := by decide +kernel
theorem dL_drafts_404 : decode cL_drafts 404 = .ok (.iconst 0, 1) := by decide +kernel
theorem dL_drafts_405 : decode cL_drafts 405 = .ok (.iconst 0, 1) := by decide +kernel
theorem dL_drafts_406 : decode cL_drafts 406 = .ok (.iastore, 1) := by decide +kernel
theorem dL_drafts_407 : decode cL_drafts 407 = .ok (.aload 5, 2) := by decide +kernel
theorem dL_drafts_409 : decode cL_drafts 409 = .ok (.iconst 1, 1) := by decide +kernel
theorem dL_drafts_410 : decode cL_drafts 410 = .ok (.iconst 0, 1) := by decide +kernel
theorem dL_drafts_411 : decode cL_drafts 411 = .ok (.iastore, 1) := by decide +kernel
theorem dL_drafts_412 : decode cL_drafts 412 = .ok (.aload 5, 2) := by decide +kernel
theorem dL_drafts_414 : decode cL_drafts 414 = .ok (.iconst 2, 1) := by decide +kernel
theorem dL_drafts_415 : decode cL_drafts 415 = .ok (.dup2, 1) := by decide +kernel
theorem dL_drafts_416 : decode cL_drafts 416 = .ok (.iaload, 1) := by decide +kernel
theorem dL_drafts_417 : decode cL_drafts 417 = .ok (.iconst 1, 1) := by decide +kernel
theorem dL_drafts_418 : decode cL_drafts 418 = .ok (.iadd, 1) := by decide +kernel
theorem dL_drafts_419 : decode cL_drafts 419 = .ok (.iastore, 1) := by decide +kernel
theorem dL_drafts_420 : decode cL_drafts 420 = .ok (.aload_n 0, 1) := by decide +kernel
theorem dL_drafts_421 : decode cL_drafts 421 = .ok (.iconst 1, 1) := by decide +kernel
theorem dL_drafts_422 : decode cL_drafts 422 = .ok (.iload 6, 2) := by decide +kernel
theorem dL_drafts_424 : decode cL_drafts 424 = .ok (.iload 7, 2) := by decide +kernel
theorem dL_drafts_426 : decode cL_drafts 426 = .ok (.iload 8, 2) := by decide +kernel
theorem dL_drafts_428 : decode cL_drafts 428 = .ok (.iload 9, 2) := by decide +kernel
theorem dL_drafts_430 : decode cL_drafts 430 = .ok (.invokestatic 94, 3) := by decide +kernel
theorem dL_drafts_433 : decode cL_drafts 433 = .ok (.iload 10, 2) := by decide +kernel
theorem dL_drafts_435 : decode cL_drafts 435 = .ok (.ifCond .eq 12, 3) := by decide +kernel
theorem dL_drafts_438 : decode cL_drafts 438 = .ok (.aload 5, 2) := by decide +kernel
theorem dL_drafts_440 : decode cL_drafts 440 = .ok (.iconst 2, 1) := by decide +kernel
theorem dL_drafts_441 : decode cL_drafts 441 = .ok (.iaload, 1) := by decide +kernel
theorem dL_drafts_442 : decode cL_drafts 442 = .ok (.iconst 1, 1) := by decide +kernel
theorem dL_drafts_443 : decode cL_drafts 443 = .ok (.isub, 1) := by decide +kernel
theorem dL_drafts_444 : decode cL_drafts 444 = .ok (.goto 5, 3) := by decide +kernel
theorem dL_drafts_447 : decode cL_drafts 447 = .ok (.bipush (-3), 2) := by decide +kernel
theorem dL_drafts_449 : decode cL_drafts 449 = .ok (.if_icmp .ne 7, 3) := by decide +kernel
theorem dL_drafts_452 : decode cL_drafts 452 = .ok (.iconst 1, 1) := by decide +kernel
theorem dL_drafts_453 : decode cL_drafts 453 = .ok (.goto 4, 3) := by decide +kernel
theorem dL_drafts_456 : decode cL_drafts 456 = .ok (.iconst 0, 1) := by decide +kernel
theorem dL_drafts_457 : decode cL_drafts 457 = .ok (.ireturn, 1) := by decide +kernel
theorem dL_rules_0 : decode cL_rules 0 = .ok (.iload_n 1, 1) := by decide +kernel
theorem dL_rules_1 : decode cL_rules 1 = .ok (.ifCond .ne 275, 3) := by decide +kernel
theorem dL_rules_4 : decode cL_rules 4 = .ok (.aload 7, 2) := by decide +kernel
theorem dL_rules_6 : decode cL_rules 6 = .ok (.iconst 3, 1) := by decide +kernel
theorem dL_rules_7 : decode cL_rules 7 = .ok (.iaload, 1) := by decide +kernel
theorem dL_rules_8 : decode cL_rules 8 = .ok (.bipush 8, 2) := by decide +kernel
theorem dL_rules_10 : decode cL_rules 10 = .ok (.if_icmp .ge 266, 3) := by decide +kernel
theorem dL_rules_13 : decode cL_rules 13 = .ok (.bipush 6, 2) := by decide +kernel
theorem dL_rules_15 : decode cL_rules 15 = .ok (.aload 7, 2) := by decide +kernel
theorem dL_rules_17 : decode cL_rules 17 = .ok (.iconst 3, 1) := by decide +kernel
theorem dL_rules_18 : decode cL_rules 18 = .ok (.iaload, 1) := by decide +kernel
theorem dL_rules_19 : decode cL_rules 19 = .ok (.imul, 1) := by decide +kernel
theorem dL_rules_20 : decode cL_rules 20 = .ok (.istore 8, 2) := by decide +kernel
theorem dL_rules_22 : decode cL_rules 22 = .ok (.aload 4, 2) := by decide +kernel
theorem dL_rules_24 : decode cL_rules 24 = .ok (.iload 8, 2) := by decide +kernel
theorem dL_rules_26 : decode cL_rules 26 = .ok (.iload_n 2, 1) := by decide +kernel
theorem dL_rules_27 : decode cL_rules 27 = .ok (.iload_n 2, 1) := by decide +kernel
theorem dL_rules_28 : decode cL_rules 28 = .ok (.bipush 13, 2) := by decide +kernel
theorem dL_rules_30 : decode cL_rules 30 = .ok (.ishr, 1) := by decide +kernel
theorem dL_rules_31 : decode cL_rules 31 = .ok (.iconst 3, 1) := by decide +kernel
theorem dL_rules_32 : decode cL_rules 32 = .ok (.invokestatic 58, 3) := by decide +kernel
theorem dL_rules_35 : decode cL_rules 35 = .ok (.ifCond .ne 8, 3) := by decide +kernel
theorem dL_rules_38 : decode cL_rules 38 = .ok (.bipush 8, 2) := by decide +kernel
theorem dL_rules_40 : decode cL_rules 40 = .ok (.goto 4, 3) := by decide +kernel
theorem dL_rules_43 : decode cL_rules 43 = .ok (.iconst 3, 1) := by decide +kernel
theorem dL_rules_44 : decode cL_rules 44 = .ok (.invokestatic 58, 3) := by decide +kernel
theorem dL_rules_47 : decode cL_rules 47 = .ok (.iastore, 1) := by decide +kernel
theorem dL_rules_48 : decode cL_rules 48 = .ok (.iload_n 2, 1) := by decide +kernel
theorem dL_rules_49 : decode cL_rules 49 = .ok (.iconst 3, 1) := by decide +kernel
theorem dL_rules_50 : decode cL_rules 50 = .ok (.ishr, 1) := by decide +kernel
theorem dL_rules_51 : decode cL_rules 51 = .ok (.iload_n 2, 1) := by decide +kernel
theorem dL_rules_52 : decode cL_rules 52 = .ok (.bipush 13, 2) := by decide +kernel
theorem dL_rules_54 : decode cL_rules 54 = .ok (.ishr, 1) := by decide +kernel
theorem dL_rules_55 : decode cL_rules 55 = .ok (.iconst 3, 1) := by decide +kernel
theorem dL_rules_56 : decode cL_rules 56 = .ok (.invokestatic 58, 3) := by decide +kernel
theorem dL_rules_59 : decode cL_rules 59 = .ok (.ifCond .ne 8, 3) := by decide +kernel
theorem dL_rules_62 : decode cL_rules 62 = .ok (.bipush 9, 2) := by decide +kernel
theorem dL_rules_64 : decode cL_rules 64 = .ok (.goto 4, 3) := by decide +kernel
theorem dL_rules_67 : decode cL_rules 67 = .ok (.iconst 4, 1) := by decide +kernel
theorem dL_rules_68 : decode cL_rules 68 = .ok (.invokestatic 58, 3) := by decide +kernel
theorem dL_rules_71 : decode cL_rules 71 = .ok (.iconst 1, 1) := by decide +kernel
theorem dL_rules_72 : decode cL_rules 72 = .ok (.isub, 1) := by decide +kernel
theorem dL_rules_73 : decode cL_rules 73 = .ok (.istore 9, 2) := by decide +kernel
theorem dL_rules_75 : decode cL_rules 75 = .ok (.aload 4, 2) := by decide +kernel
theorem dL_rules_77 : decode cL_rules 77 = .ok (.iload 8, 2) := by decide +kernel
theorem dL_rules_79 : decode cL_rules 79 = .ok (.iconst 1, 1) := by decide +kernel
theorem dL_rules_80 : decode cL_rules 80 = .ok (.iadd, 1) := by decide +kernel
theorem dL_rules_81 : decode cL_rules 81 = .ok (.iload 9, 2) := by decide +kernel
theorem dL_rules_83 : decode cL_rules 83 = .ok (.aload 4, 2) := by decide +kernel
theorem dL_rules_85 : decode cL_rules 85 = .ok (.iload 8, 2) := by decide +kernel
theorem dL_rules_87 : decode cL_rules 87 = .ok (.iaload, 1) := by decide +kernel
theorem dL_rules_88 : decode cL_rules 88 = .ok (.if_icmp .ne 7, 3) := by decide +kernel
theorem dL_rules_91 : decode cL_rules 91 = .ok (.iconst (-1), 1) := by decide +kernel
theorem dL_rules_92 : decode cL_rules 92 = .ok (.goto 5, 3) := by decide +kernel
theorem dL_rules_95 : decode cL_rules 95 = .ok (.iload 9, 2) := by decide +kernel
theorem dL_rules_97 : decode cL_rules 97 = .ok (.iastore, 1) := by decide +kernel
theorem dL_rules_98 : decode cL_rules 98 = .ok (.aload 4, 2) := by decide +kernel
theorem dL_rules_100 : decode cL_rules 100 = .ok (.iload 8, 2) := by decide +kernel
theorem dL_rules_102 : decode cL_rules 102 = .ok (.iconst 2, 1) := by decide +kernel
theorem dL_rules_103 : decode cL_rules 103 = .ok (.iadd, 1) := by decide +kernel
theorem dL_rules_104 : decode cL_rules 104 = .ok (.iload_n 2, 1) := by decide +kernel
theorem dL_rules_105 : decode cL_rules 105 = .ok (.bipush 6, 2) := by decide +kernel
theorem dL_rules_107 : decode cL_rules 107 = .ok (.ishr, 1) := by decide +kernel
theorem dL_rules_108 : decode cL_rules 108 = .ok (.iconst 2, 1) := by decide +kernel
theorem dL_rules_109 : decode cL_rules 109 = .ok (.invokestatic 58, 3) := by decide +kernel
theorem dL_rules_112 : decode cL_rules 112 = .ok (.ifCond .ne 8, 3) := by decide +kernel
theorem dL_rules_115 : decode cL_rules 115 = .ok (.bipush 9, 2) := by decide +kernel
theorem dL_rules_117 : decode cL_rules 117 = .ok (.goto 27, 3) := by decide +kernel
theorem dL_rules_120 : decode cL_rules 120 = .ok (.iload_n 2, 1) := by decide +kernel
theorem dL_rules_121 : decode cL_rules 121 = .ok (.bipush 7, 2) := by decide +kernel
theorem dL_rules_123 : decode cL_rules 123 = .ok (.ishr, 1) := by decide +kernel
theorem dL_rules_124 : decode cL_rules 124 = .ok (.iconst 4, 1) := by decide +kernel
theorem dL_rules_125 : decode cL_rules 125 = .ok (.invokestatic 58, 3) := by decide +kernel
theorem dL_rules_128 : decode cL_rules 128 = .ok (.ifCond .ne 8, 3) := by decide +kernel
theorem dL_rules_131 : decode cL_rules 131 = .ok (.bipush 8, 2) := by decide +kernel
theorem dL_rules_133 : decode cL_rules 133 = .ok (.goto 11, 3) := by decide +kernel
theorem dL_rules_136 : decode cL_rules 136 = .ok (.iload_n 2, 1) := by decide +kernel
theorem dL_rules_137 : decode cL_rules 137 = .ok (.bipush 8, 2) := by decide +kernel
theorem dL_rules_139 : decode cL_rules 139 = .ok (.ishr, 1) := by decide +kernel
theorem dL_rules_140 : decode cL_rules 140 = .ok (.iconst 3, 1) := by decide +kernel
theorem dL_rules_141 : decode cL_rules 141 = .ok (.invokestatic 58, 3) := by decide +kernel
theorem dL_rules_144 : decode cL_rules 144 = .ok (.iastore, 1) := by decide +kernel
theorem dL_rules_145 : decode cL_rules 145 = .ok (.aload 4, 2) := by decide +kernel
theorem dL_rules_147 : decode cL_rules 147 = .ok (.iload 8, 2) := by decide +kernel
theorem dL_rules_149 : decode cL_rules 149 = .ok (.iconst 3, 1) := by decide +kernel
theorem dL_rules_150 : decode cL_rules 150 = .ok (.iadd, 1) := by decide +kernel
theorem dL_rules_151 : decode cL_rules 151 = .ok (.iload_n 2, 1) := by decide +kernel
theorem dL_rules_152 : decode cL_rules 152 = .ok (.bipush 9, 2) := by decide +kernel
theorem dL_rules_154 : decode cL_rules 154 = .ok (.ishr, 1) := by decide +kernel
theorem dL_rules_155 : decode cL_rules 155 = .ok (.iconst 4, 1) := by decide +kernel
theorem dL_rules_156 : decode cL_rules 156 = .ok (.invokestatic 58, 3) := by decide +kernel
theorem dL_rules_159 : decode cL_rules 159 = .ok (.iastore, 1) := by decide +kernel
theorem dL_rules_160 : decode cL_rules 160 = .ok (.aload 4, 2) := by decide +kernel
theorem dL_rules_162 : decode cL_rules 162 = .ok (.iload 8, 2) := by decide +kernel
theorem dL_rules_164 : decode cL_rules 164 = .ok (.iconst 4, 1) := by decide +kernel
theorem dL_rules_165 : decode cL_rules 165 = .ok (.iadd, 1) := by decide +kernel
theorem dL_rules_166 : decode cL_rules 166 = .ok (.aload 4, 2) := by decide +kernel
theorem dL_rules_168 : decode cL_rules 168 = .ok (.iload 8, 2) := by decide +kernel
theorem dL_rules_170 : decode cL_rules 170 = .ok (.iconst 3, 1) := by decide +kernel
theorem dL_rules_171 : decode cL_rules 171 = .ok (.iadd, 1) := by decide +kernel
theorem dL_rules_172 : decode cL_rules 172 = .ok (.iaload, 1) := by decide +kernel
theorem dL_rules_173 : decode cL_rules 173 = .ok (.iload_n 2, 1) := by decide +kernel
theorem dL_rules_174 : decode cL_rules 174 = .ok (.bipush 10, 2) := by decide +kernel
theorem dL_rules_176 : decode cL_rules 176 = .ok (.ishr, 1) := by decide +kernel
theorem dL_rules_177 : decode cL_rules 177 = .ok (.bipush 10, 2) := by decide +kernel
theorem dL_rules_179 : decode cL_rules 179 = .ok (.aload 4, 2) := by decide +kernel
theorem dL_rules_181 : decode cL_rules 181 = .ok (.iload 8, 2) := by decide +kernel
theorem dL_rules_183 : decode cL_rules 183 = .ok (.iconst 3, 1) := by decide +kernel
theorem dL_rules_184 : decode cL_rules 184 = .ok (.iadd, 1) := by decide +kernel
theorem dL_rules_185 : decode cL_rules 185 = .ok (.iaload, 1) := by decide +kernel
theorem dL_rules_186 : decode cL_rules 186 = .ok (.isub, 1) := by decide +kernel
theorem dL_rules_187 : decode cL_rules 187 = .ok (.invokestatic 58, 3) := by decide +kernel
theorem dL_rules_190 : decode cL_rules 190 = .ok (.iadd, 1) := by decide +kernel
theorem dL_rules_191 : decode cL_rules 191 = .ok (.iastore, 1) := by decide +kernel
theorem dL_rules_192 : decode cL_rules 192 = .ok (.aload 4, 2) := by decide +kernel
theorem dL_rules_194 : decode cL_rules 194 = .ok (.iload 8, 2) := by decide +kernel
theorem dL_rules_196 : decode cL_rules 196 = .ok (.iconst 5, 1) := by decide +kernel
theorem dL_rules_197 : decode cL_rules 197 = .ok (.iadd, 1) := by decide +kernel
theorem dL_rules_198 : decode cL_rules 198 = .ok (.iload_n 2, 1) := by decide +kernel
theorem dL_rules_199 : decode cL_rules 199 = .ok (.bipush 11, 2) := by decide +kernel
theorem dL_rules_201 : decode cL_rules 201 = .ok (.ishr, 1) := by decide +kernel
theorem dL_rules_202 : decode cL_rules 202 = .ok (.sipush 301, 3) := by decide +kernel
theorem dL_rules_205 : decode cL_rules 205 = .ok (.invokestatic 58, 3) := by decide +kernel
theorem dL_rules_208 : decode cL_rules 208 = .ok (.iastore, 1) := by decide +kernel
theorem dL_rules_209 : decode cL_rules 209 = .ok (.aload 7, 2) := by decide +kernel
theorem dL_rules_211 : decode cL_rules 211 = .ok (.iconst 3, 1) := by decide +kernel
theorem dL_rules_212 : decode cL_rules 212 = .ok (.dup2, 1) := by decide +kernel
theorem dL_rules_213 : decode cL_rules 213 = .ok (.iaload, 1) := by decide +kernel
theorem dL_rules_214 : decode cL_rules 214 = .ok (.iconst 1, 1) := by decide +kernel
theorem dL_rules_215 : decode cL_rules 215 = .ok (.iadd, 1) := by decide +kernel
theorem dL_rules_216 : decode cL_rules 216 = .ok (.iastore, 1) := by decide +kernel
theorem dL_rules_217 : decode cL_rules 217 = .ok (.aload_n 0, 1) := by decide +kernel
theorem dL_rules_218 : decode cL_rules 218 = .ok (.aload 4, 2) := by decide +kernel
theorem dL_rules_220 : decode cL_rules 220 = .ok (.iload 8, 2) := by decide +kernel
theorem dL_rules_222 : decode cL_rules 222 = .ok (.iaload, 1) := by decide +kernel
theorem dL_rules_223 : decode cL_rules 223 = .ok (.aload 4, 2) := by decide +kernel
theorem dL_rules_225 : decode cL_rules 225 = .ok (.iload 8, 2) := by decide +kernel
theorem dL_rules_227 : decode cL_rules 227 = .ok (.iconst 1, 1) := by decide +kernel
theorem dL_rules_228 : decode cL_rules 228 = .ok (.iadd, 1) := by decide +kernel
theorem dL_rules_229 : decode cL_rules 229 = .ok (.iaload, 1) := by decide +kernel
theorem dL_rules_230 : decode cL_rules 230 = .ok (.aload 4, 2) := by decide +kernel
theorem dL_rules_232 : decode cL_rules 232 = .ok (.iload 8, 2) := by decide +kernel
theorem dL_rules_234 : decode cL_rules 234 = .ok (.iconst 2, 1) := by decide +kernel
theorem dL_rules_235 : decode cL_rules 235 = .ok (.iadd, 1) := by decide +kernel
theorem dL_rules_236 : decode cL_rules 236 = .ok (.iaload, 1) := by decide +kernel
theorem dL_rules_237 : decode cL_rules 237 = .ok (.aload 4, 2) := by decide +kernel
theorem dL_rules_239 : decode cL_rules 239 = .ok (.iload 8, 2) := by decide +kernel
theorem dL_rules_241 : decode cL_rules 241 = .ok (.iconst 3, 1) := by decide +kernel
theorem dL_rules_242 : decode cL_rules 242 = .ok (.iadd, 1) := by decide +kernel
theorem dL_rules_243 : decode cL_rules 243 = .ok (.iaload, 1) := by decide +kernel
theorem dL_rules_244 : decode cL_rules 244 = .ok (.aload 4, 2) := by decide +kernel
theorem dL_rules_246 : decode cL_rules 246 = .ok (.iload 8, 2) := by decide +kernel
theorem dL_rules_248 : decode cL_rules 248 = .ok (.iconst 4, 1) := by decide +kernel
theorem dL_rules_249 : decode cL_rules 249 = .ok (.iadd, 1) := by decide +kernel
theorem dL_rules_250 : decode cL_rules 250 = .ok (.iaload, 1) := by decide +kernel
theorem dL_rules_251 : decode cL_rules 251 = .ok (.aload 4, 2) := by decide +kernel
theorem dL_rules_253 : decode cL_rules 253 = .ok (.iload 8, 2) := by decide +kernel
theorem dL_rules_255 : decode cL_rules 255 = .ok (.iconst 5, 1) := by decide +kernel
theorem dL_rules_256 : decode cL_rules 256 = .ok (.iadd, 1) := by decide +kernel
theorem dL_rules_257 : decode cL_rules 257 = .ok (.iaload, 1) := by decide +kernel
theorem dL_rules_258 : decode cL_rules 258 = .ok (.invokevirtual 98, 3) := by decide +kernel
theorem dL_rules_261 : decode cL_rules 261 = .ok (.aload 7, 2) := by decide +kernel
theorem dL_rules_263 : decode cL_rules 263 = .ok (.iconst 3, 1) := by decide +kernel
theorem dL_rules_264 : decode cL_rules 264 = .ok (.iaload, 1) := by decide +kernel
theorem dL_rules_265 : decode cL_rules 265 = .ok (.iconst 1, 1) := by decide +kernel
theorem dL_rules_266 : decode cL_rules 266 = .ok (.isub, 1) := by decide +kernel
theorem dL_rules_267 : decode cL_rules 267 = .ok (.if_icmp .ne 7, 3) := by decide +kernel
theorem dL_rules_270 : decode cL_rules 270 = .ok (.iconst 1, 1) := by decide +kernel
theorem dL_rules_271 : decode cL_rules 271 = .ok (.goto 4, 3) := by decide +kernel
theorem dL_rules_274 : decode cL_rules 274 = .ok (.iconst 0, 1) := by decide +kernel
theorem dL_rules_275 : decode cL_rules 275 = .ok (.ireturn, 1) := by decide +kernel
theorem dL_rules_276 : decode cL_rules 276 = .ok (.iload_n 1, 1) := by decide +kernel
theorem dL_rules_277 : decode cL_rules 277 = .ok (.iconst 3, 1) := by decide +kernel
theorem dL_rules_278 : decode cL_rules 278 = .ok (.if_icmp .ge 143, 3) := by decide +kernel
theorem dL_rules_281 : decode cL_rules 281 = .ok (.aload 7, 2) := by decide +kernel
theorem dL_rules_283 : decode cL_rules 283 = .ok (.iconst 3, 1) := by decide +kernel
theorem dL_rules_284 : decode cL_rules 284 = .ok (.iaload, 1) := by decide +kernel
theorem dL_rules_285 : decode cL_rules 285 = .ok (.ifCond .le 136, 3) := by decide +kernel
theorem dL_rules_288 : decode cL_rules 288 = .ok (.aload 7, 2) := by decide +kernel
theorem dL_rules_290 : decode cL_rules 290 = .ok (.iconst 2, 1) := by decide +kernel
theorem dL_rules_291 : decode cL_rules 291 = .ok (.iaload, 1) := by decide +kernel
theorem dL_rules_292 : decode cL_rules 292 = .ok (.ifCond .le 129, 3) := by decide +kernel
theorem dL_rules_295 : decode cL_rules 295 = .ok (.iload_n 2, 1) := by decide +kernel
theorem dL_rules_296 : decode cL_rules 296 = .ok (.aload 7, 2) := by decide +kernel
theorem dL_rules_298 : decode cL_rules 298 = .ok (.iconst 3, 1) := by decide +kernel
theorem dL_rules_299 : decode cL_rules 299 = .ok (.iaload, 1) := by decide +kernel
theorem dL_rules_300 : decode cL_rules 300 = .ok (.invokestatic 58, 3) := by decide +kernel
theorem dL_rules_303 : decode cL_rules 303 = .ok (.istore 8, 2) := by decide +kernel
theorem dL_rules_305 : decode cL_rules 305 = .ok (.iload_n 2, 1) := by decide +kernel
theorem dL_rules_306 : decode cL_rules 306 = .ok (.iconst 4, 1) := by decide +kernel
theorem dL_rules_307 : decode cL_rules 307 = .ok (.ishr, 1) := by decide +kernel
theorem dL_rules_308 : decode cL_rules 308 = .ok (.aload 7, 2) := by decide +kernel
theorem dL_rules_310 : decode cL_rules 310 = .ok (.iconst 2, 1) := by decide +kernel
theorem dL_rules_311 : decode cL_rules 311 = .ok (.iaload, 1) := by decide +kernel
theorem dL_rules_312 : decode cL_rules 312 = .ok (.invokestatic 58, 3) := by decide +kernel
theorem dL_rules_315 : decode cL_rules 315 = .ok (.istore 9, 2) := by decide +kernel
theorem dL_rules_317 : decode cL_rules 317 = .ok (.aload 7, 2) := by decide +kernel
theorem dL_rules_319 : decode cL_rules 319 = .ok (.bipush 6, 2) := by decide +kernel
theorem dL_rules_321 : decode cL_rules 321 = .ok (.iaload, 1) := by decide +kernel
theorem dL_rules_322 : decode cL_rules 322 = .ok (.iload 8, 2) := by decide +kernel
theorem dL_rules_324 : decode cL_rules 324 = .ok (.ishr, 1) := by decide +kernel
theorem dL_rules_325 : decode cL_rules 325 = .ok (.iconst 1, 1) := by decide +kernel
theorem dL_rules_326 : decode cL_rules 326 = .ok (.iand, 1) := by decide +kernel
theorem dL_rules_327 : decode cL_rules 327 = .ok (.ifCond .ne 32, 3) := by decide +kernel
theorem dL_rules_330 : decode cL_rules 330 = .ok (.aload 7, 2) := by decide +kernel
theorem dL_rules_332 : decode cL_rules 332 = .ok (.iconst 5, 1) := by decide +kernel
theorem dL_rules_333 : decode cL_rules 333 = .ok (.iaload, 1) := by decide +kernel
theorem dL_rules_334 : decode cL_rules 334 = .ok (.iload 9, 2) := by decide +kernel
theorem dL_rules_336 : decode cL_rules 336 = .ok (.ishr, 1) := by decide +kernel
theorem dL_rules_337 : decode cL_rules 337 = .ok (.iconst 1, 1) := by decide +kernel
theorem dL_rules_338 : decode cL_rules 338 = .ok (.iand, 1) := by decide +kernel
theorem dL_rules_339 : decode cL_rules 339 = .ok (.ifCond .ne 20, 3) := by decide +kernel
theorem dL_rules_342 : decode cL_rules 342 = .ok (.aload 5, 2) := by decide +kernel
theorem dL_rules_344 : decode cL_rules 344 = .ok (.iload 8, 2) := by decide +kernel
theorem dL_rules_346 : decode cL_rules 346 = .ok (.iaload, 1) := by decide +kernel
theorem dL_rules_347 : decode cL_rules 347 = .ok (.iload 9, 2) := by decide +kernel
theorem dL_rules_349 : decode cL_rules 349 = .ok (.ishr, 1) := by decide +kernel
theorem dL_rules_350 : decode cL_rules 350 = .ok (.iconst 1, 1) := by decide +kernel
theorem dL_rules_351 : decode cL_rules 351 = .ok (.iand, 1) := by decide +kernel
theorem dL_rules_352 : decode cL_rules 352 = .ok (.ifCond .ne 7, 3) := by decide +kernel
theorem dL_rules_355 : decode cL_rules 355 = .ok (.iconst 1, 1) := by decide +kernel
theorem dL_rules_356 : decode cL_rules 356 = .ok (.goto 4, 3) := by decide +kernel
theorem dL_rules_359 : decode cL_rules 359 = .ok (.iconst 0, 1) := by decide +kernel
theorem dL_rules_360 : decode cL_rules 360 = .ok (.istore 10, 2) := by decide +kernel
theorem dL_rules_362 : decode cL_rules 362 = .ok (.aload 5, 2) := by decide +kernel
theorem dL_rules_364 : decode cL_rules 364 = .ok (.iload 8, 2) := by decide +kernel
theorem dL_rules_366 : decode cL_rules 366 = .ok (.dup2, 1) := by decide +kernel
theorem dL_rules_367 : decode cL_rules 367 = .ok (.iaload, 1) := by decide +kernel
theorem dL_rules_368 : decode cL_rules 368 = .ok (.iload 10, 2) := by decide +kernel
theorem dL_rules_370 : decode cL_rules 370 = .ok (.ifCond .eq 10, 3) := by decide +kernel
theorem dL_rules_373 : decode cL_rules 373 = .ok (.iconst 1, 1) := by decide +kernel
theorem dL_rules_374 : decode cL_rules 374 = .ok (.iload 9, 2) := by decide +kernel
theorem dL_rules_376 : decode cL_rules 376 = .ok (.ishl, 1) := by decide +kernel
theorem dL_rules_377 : decode cL_rules 377 = .ok (.goto 4, 3) := by decide +kernel
theorem dL_rules_380 : decode cL_rules 380 = .ok (.iconst 0, 1) := by decide +kernel
theorem dL_rules_381 : decode cL_rules 381 = .ok (.ior, 1) := by decide +kernel
theorem dL_rules_382 : decode cL_rules 382 = .ok (.iastore, 1) := by decide +kernel
theorem dL_rules_383 : decode cL_rules 383 = .ok (.aload_n 0, 1) := by decide +kernel
theorem dL_rules_384 : decode cL_rules 384 = .ok (.iconst 3, 1) := by decide +kernel
theorem dL_rules_385 : decode cL_rules 385 = .ok (.iload 8, 2) := by decide +kernel
theorem dL_rules_387 : decode cL_rules 387 = .ok (.iload 9, 2) := by decide +kernel
theorem dL_rules_389 : decode cL_rules 389 = .ok (.iconst 0, 1) := by decide +kernel
theorem dL_rules_390 : decode cL_rules 390 = .ok (.iconst 0, 1) := by decide +kernel
theorem dL_rules_391 : decode cL_rules 391 = .ok (.invokestatic 94, 3) := by decide +kernel
theorem dL_rules_394 : decode cL_rules 394 = .ok (.iload 10, 2) := by decide +kernel
theorem dL_rules_396 : decode cL_rules 396 = .ok (.ifCond .eq 14, 3) := by decide +kernel
theorem dL_rules_399 : decode cL_rules 399 = .ok (.aload 5, 2) := by decide +kernel
theorem dL_rules_401 : decode cL_rules 401 = .ok (.iload 8, 2) := by decide +kernel
theorem dL_rules_403 : decode cL_rules 403 = .ok (.iaload, 1) := by decide +kernel
theorem dL_rules_404 : decode cL_rules 404 = .ok (.invokestatic 88, 3) := by decide +kernel
theorem dL_rules_407 : decode cL_rules 407 = .ok (.goto 5, 3) := by decide +kernel
theorem dL_rules_410 : decode cL_rules 410 = .ok (.bipush (-3), 2) := by decide +kernel
theorem dL_rules_412 : decode cL_rules 412 = .ok (.if_icmp .ne 7, 3) := by decide +kernel
theorem dL_rules_415 : decode cL_rules 415 = .ok (.iconst 1, 1) := by decide +kernel
theorem dL_rules_416 : decode cL_rules 416 = .ok (.goto 4, 3) := by decide +kernel
theorem dL_rules_419 : decode cL_rules 419 = .ok (.iconst 0, 1) := by decide +kernel
theorem dL_rules_420 : decode cL_rules 420 = .ok (.ireturn, 1) := by decide +kernel
theorem dL_rules_421 : decode cL_rules 421 = .ok (.iload_n 1, 1) := by decide +kernel
theorem dL_rules_422 : decode cL_rules 422 = .ok (.iconst 3, 1) := by decide +kernel
theorem dL_rules_423 : decode cL_rules 423 = .ok (.if_icmp .ne 182, 3) := by decide +kernel
theorem dL_rules_426 : decode cL_rules 426 = .ok (.iload_n 2, 1) := by decide +kernel
theorem dL_rules_427 : decode cL_rules 427 = .ok (.iload_n 2, 1) := by decide +kernel
theorem dL_rules_428 : decode cL_rules 428 = .ok (.bipush 13, 2) := by decide +kernel
theorem dL_rules_430 : decode cL_rules 430 = .ok (.ishr, 1) := by decide +kernel
theorem dL_rules_431 : decode cL_rules 431 = .ok (.iconst 3, 1) := by decide +kernel
theorem dL_rules_432 : decode cL_rules 432 = .ok (.invokestatic 58, 3) := by decide +kernel
theorem dL_rules_435 : decode cL_rules 435 = .ok (.ifCond .ne 8, 3) := by decide +kernel
theorem dL_rules_438 : decode cL_rules 438 = .ok (.bipush 8, 2) := by decide +kernel
theorem dL_rules_440 : decode cL_rules 440 = .ok (.goto 4, 3) := by decide +kernel
theorem dL_rules_443 : decode cL_rules 443 = .ok (.iconst 3, 1) := by decide +kernel
theorem dL_rules_444 : decode cL_rules 444 = .ok (.invokestatic 58, 3) := by decide +kernel
theorem dL_rules_447 : decode cL_rules 447 = .ok (.istore 8, 2) := by decide +kernel
theorem dL_rules_449 : decode cL_rules 449 = .ok (.iconst 0, 1) := by decide +kernel
theorem dL_rules_450 : decode cL_rules 450 = .ok (.istore 9, 2) := by decide +kernel
theorem dL_rules_452 : decode cL_rules 452 = .ok (.iconst 0, 1) := by decide +kernel
theorem dL_rules_453 : decode cL_rules 453 = .ok (.istore 10, 2) := by decide +kernel
theorem dL_rules_455 : decode cL_rules 455 = .ok (.iload 10, 2) := by decide +kernel
theorem dL_rules_457 : decode cL_rules 457 = .ok (.aload 7, 2) := by decide +kernel
theorem dL_rules_459 : decode cL_rules 459 = .ok (.iconst 2, 1) := by decide +kernel
theorem dL_rules_460 : decode cL_rules 460 = .ok (.iaload, 1) := by decide +kernel
theorem dL_rules_461 : decode cL_rules 461 = .ok (.if_icmp .ge 45, 3) := by decide +kernel
theorem dL_rules_464 : decode cL_rules 464 = .ok (.iload 9, 2) := by decide +kernel
theorem dL_rules_466 : decode cL_rules 466 = .ok (.aload_n 3, 1) := by decide +kernel
theorem dL_rules_467 : decode cL_rules 467 = .ok (.iconst 4, 1) := by decide +kernel
theorem dL_rules_468 : decode cL_rules 468 = .ok (.iload 10, 2) := by decide +kernel
theorem dL_rules_470 : decode cL_rules 470 = .ok (.imul, 1) := by decide +kernel
theorem dL_rules_471 : decode cL_rules 471 = .ok (.iaload, 1) := by decide +kernel
theorem dL_rules_472 : decode cL_rules 472 = .ok (.iload 8, 2) := by decide +kernel
theorem dL_rules_474 : decode cL_rules 474 = .ok (.if_icmp .ne 22, 3) := by decide +kernel
theorem dL_rules_477 : decode cL_rules 477 = .ok (.aload 7, 2) := by decide +kernel
theorem dL_rules_479 : decode cL_rules 479 = .ok (.iconst 5, 1) := by decide +kernel
theorem dL_rules_480 : decode cL_rules 480 = .ok (.iaload, 1) := by decide +kernel
theorem dL_rules_481 : decode cL_rules 481 = .ok (.iload 10, 2) := by decide +kernel
theorem dL_rules_483 : decode cL_rules 483 = .ok (.ishr, 1) := by decide +kernel
theorem dL_rules_484 : decode cL_rules 484 = .ok (.iconst 1, 1) := by decide +kernel
theorem dL_rules_485 : decode cL_rules 485 = .ok (.iand, 1) := by decide +kernel
theorem dL_rules_486 : decode cL_rules 486 = .ok (.ifCond .ne 10, 3) := by decide +kernel
theorem dL_rules_489 : decode cL_rules 489 = .ok (.iconst 1, 1) := by decide +kernel
theorem dL_rules_490 : decode cL_rules 490 = .ok (.iload 10, 2) := by decide +kernel
theorem dL_rules_492 : decode cL_rules 492 = .ok (.ishl, 1) := by decide +kernel
theorem dL_rules_493 : decode cL_rules 493 = .ok (.goto 4, 3) := by decide +kernel
theorem dL_rules_496 : decode cL_rules 496 = .ok (.iconst 0, 1) := by decide +kernel
theorem dL_rules_497 : decode cL_rules 497 = .ok (.ior, 1) := by decide +kernel
theorem dL_rules_498 : decode cL_rules 498 = .ok (.istore 9, 2) := by decide +kernel
theorem dL_rules_500 : decode cL_rules 500 = .ok (.iinc 10 1, 3) := by decide +kernel
theorem dL_rules_503 : decode cL_rules 503 = .ok (.goto (-48), 3) := by decide +kernel
theorem dL_rules_506 : decode cL_rules 506 = .ok (.aload 7, 2) := by decide +kernel
theorem dL_rules_508 : decode cL_rules 508 = .ok (.iconst 5, 1) := by decide +kernel
theorem dL_rules_509 : decode cL_rules 509 = .ok (.dup2, 1) := by decide +kernel
theorem dL_rules_510 : decode cL_rules 510 = .ok (.iaload, 1) := by decide +kernel
theorem dL_rules_511 : decode cL_rules 511 = .ok (.iload 9, 2) := by decide +kernel
theorem dL_rules_513 : decode cL_rules 513 = .ok (.ior, 1) := by decide +kernel
theorem dL_rules_514 : decode cL_rules 514 = .ok (.iastore, 1) := by decide +kernel
theorem dL_rules_515 : decode cL_rules 515 = .ok (.iconst 0, 1) := by decide +kernel
theorem dL_rules_516 : decode cL_rules 516 = .ok (.istore 10, 2) := by decide +kernel
theorem dL_rules_518 : decode cL_rules 518 = .ok (.iload 10, 2) := by decide +kernel
theorem dL_rules_520 : decode cL_rules 520 = .ok (.aload 7, 2) := by decide +kernel
theorem dL_rules_522 : decode cL_rules 522 = .ok (.iconst 3, 1) := by decide +kernel
theorem dL_rules_523 : decode cL_rules 523 = .ok (.iaload, 1) := by decide +kernel
theorem dL_rules_524 : decode cL_rules 524 = .ok (.if_icmp .ge 61, 3) := by decide +kernel
theorem dL_rules_527 : decode cL_rules 527 = .ok (.aload 7, 2) := by decide +kernel
theorem dL_rules_529 : decode cL_rules 529 = .ok (.bipush 6, 2) := by decide +kernel
theorem dL_rules_531 : decode cL_rules 531 = .ok (.dup2, 1) := by decide +kernel
theorem dL_rules_532 : decode cL_rules 532 = .ok (.iaload, 1) := by decide +kernel
theorem dL_rules_533 : decode cL_rules 533 = .ok (.aload 5, 2) := by decide +kernel
theorem dL_rules_535 : decode cL_rules 535 = .ok (.iload 10, 2) := by decide +kernel
theorem dL_rules_537 : decode cL_rules 537 = .ok (.iaload, 1) := by decide +kernel
theorem dL_rules_538 : decode cL_rules 538 = .ok (.iload 9, 2) := by decide +kernel
theorem dL_rules_540 : decode cL_rules 540 = .ok (.iand, 1) := by decide +kernel
theorem dL_rules_541 : decode cL_rules 541 = .ok (.ifCond .eq 23, 3) := by decide +kernel
theorem dL_rules_544 : decode cL_rules 544 = .ok (.aload 5, 2) := by decide +kernel
theorem dL_rules_546 : decode cL_rules 546 = .ok (.iload 10, 2) := by decide +kernel
theorem dL_rules_548 : decode cL_rules 548 = .ok (.iaload, 1) := by decide +kernel
theorem dL_rules_549 : decode cL_rules 549 = .ok (.iload 9, 2) := by decide +kernel
theorem dL_rules_551 : decode cL_rules 551 = .ok (.iconst (-1), 1) := by decide +kernel
theorem dL_rules_552 : decode cL_rules 552 = .ok (.ixor, 1) := by decide +kernel
theorem dL_rules_553 : decode cL_rules 553 = .ok (.iand, 1) := by decide +kernel
theorem dL_rules_554 : decode cL_rules 554 = .ok (.ifCond .ne 10, 3) := by decide +kernel
theorem dL_rules_557 : decode cL_rules 557 = .ok (.iconst 1, 1) := by decide +kernel
theorem dL_rules_558 : decode cL_rules 558 = .ok (.iload 10, 2) := by decide +kernel
theorem dL_rules_560 : decode cL_rules 560 = .ok (.ishl, 1) := by decide +kernel
theorem dL_rules_561 : decode cL_rules 561 = .ok (.goto 4, 3) := by decide +kernel
theorem dL_rules_564 : decode cL_rules 564 = .ok (.iconst 0, 1) := by decide +kernel
theorem dL_rules_565 : decode cL_rules 565 = .ok (.ior, 1) := by decide +kernel
theorem dL_rules_566 : decode cL_rules 566 = .ok (.iastore, 1) := by decide +kernel
theorem dL_rules_567 : decode cL_rules 567 = .ok (.aload 5, 2) := by decide +kernel
theorem dL_rules_569 : decode cL_rules 569 = .ok (.iload 10, 2) := by decide +kernel
theorem dL_rules_571 : decode cL_rules 571 = .ok (.dup2, 1) := by decide +kernel
theorem dL_rules_572 : decode cL_rules 572 = .ok (.iaload, 1) := by decide +kernel
theorem dL_rules_573 : decode cL_rules 573 = .ok (.iload 9, 2) := by decide +kernel
theorem dL_rules_575 : decode cL_rules 575 = .ok (.iconst (-1), 1) := by decide +kernel
theorem dL_rules_576 : decode cL_rules 576 = .ok (.ixor, 1) := by decide +kernel
theorem dL_rules_577 : decode cL_rules 577 = .ok (.iand, 1) := by decide +kernel
theorem dL_rules_578 : decode cL_rules 578 = .ok (.iastore, 1) := by decide +kernel
theorem dL_rules_579 : decode cL_rules 579 = .ok (.iinc 10 1, 3) := by decide +kernel
theorem dL_rules_582 : decode cL_rules 582 = .ok (.goto (-64), 3) := by decide +kernel
theorem dL_rules_585 : decode cL_rules 585 = .ok (.aload_n 0, 1) := by decide +kernel
theorem dL_rules_586 : decode cL_rules 586 = .ok (.iload 8, 2) := by decide +kernel
theorem dL_rules_588 : decode cL_rules 588 = .ok (.invokevirtual 102, 3) := by decide +kernel
theorem dL_rules_591 : decode cL_rules 591 = .ok (.iload 9, 2) := by decide +kernel
theorem dL_rules_593 : decode cL_rules 593 = .ok (.invokestatic 88, 3) := by decide +kernel
theorem dL_rules_596 : decode cL_rules 596 = .ok (.if_icmp .ne 7, 3) := by decide +kernel
theorem dL_rules_599 : decode cL_rules 599 = .ok (.iconst 1, 1) := by decide +kernel
theorem dL_rules_600 : decode cL_rules 600 = .ok (.goto 4, 3) := by decide +kernel
theorem dL_rules_603 : decode cL_rules 603 = .ok (.iconst 0, 1) := by decide +kernel
theorem dL_rules_604 : decode cL_rules 604 = .ok (.ireturn, 1) := by decide +kernel
theorem dL_rules_605 : decode cL_rules 605 = .ok (.iload_n 2, 1) := by decide +kernel
theorem dL_rules_606 : decode cL_rules 606 = .ok (.iconst 3, 1) := by decide +kernel
theorem dL_rules_607 : decode cL_rules 607 = .ok (.invokestatic 58, 3) := by decide +kernel
theorem dL_rules_610 : decode cL_rules 610 = .ok (.istore 8, 2) := by decide +kernel
theorem dL_rules_612 : decode cL_rules 612 = .ok (.iload_n 1, 1) := by decide +kernel
theorem dL_rules_613 : decode cL_rules 613 = .ok (.iconst 4, 1) := by decide +kernel
theorem dL_rules_614 : decode cL_rules 614 = .ok (.if_icmp .ne 52, 3) := by decide +kernel
theorem dL_rules_617 : decode cL_rules 617 = .ok (.aload 7, 2) := by decide +kernel
theorem dL_rules_619 : decode cL_rules 619 = .ok (.bipush 7, 2) := by decide +kernel
theorem dL_rules_621 : decode cL_rules 621 = .ok (.iload 8, 2) := by decide +kernel
theorem dL_rules_623 : decode cL_rules 623 = .ok (.iadd, 1) := by decide +kernel
theorem dL_rules_624 : decode cL_rules 624 = .ok (.iconst 1, 1) := by decide +kernel
theorem dL_rules_625 : decode cL_rules 625 = .ok (.aload 7, 2) := by decide +kernel
theorem dL_rules_627 : decode cL_rules 627 = .ok (.iconst 2, 1) := by decide +kernel
theorem dL_rules_628 : decode cL_rules 628 = .ok (.iaload, 1) := by decide +kernel
theorem dL_rules_629 : decode cL_rules 629 = .ok (.ishl, 1) := by decide +kernel
theorem dL_rules_630 : decode cL_rules 630 = .ok (.iconst 1, 1) := by decide +kernel
theorem dL_rules_631 : decode cL_rules 631 = .ok (.isub, 1) := by decide +kernel
theorem dL_rules_632 : decode cL_rules 632 = .ok (.aload 7, 2) := by decide +kernel
theorem dL_rules_634 : decode cL_rules 634 = .ok (.iconst 5, 1) := by decide +kernel
theorem dL_rules_635 : decode cL_rules 635 = .ok (.iaload, 1) := by decide +kernel
theorem dL_rules_636 : decode cL_rules 636 = .ok (.iconst (-1), 1) := by decide +kernel
theorem dL_rules_637 : decode cL_rules 637 = .ok (.ixor, 1) := by decide +kernel
theorem dL_rules_638 : decode cL_rules 638 = .ok (.iand, 1) := by decide +kernel
theorem dL_rules_639 : decode cL_rules 639 = .ok (.iastore, 1) := by decide +kernel
theorem dL_rules_640 : decode cL_rules 640 = .ok (.aload_n 0, 1) := by decide +kernel
theorem dL_rules_641 : decode cL_rules 641 = .ok (.iload 8, 2) := by decide +kernel
theorem dL_rules_643 : decode cL_rules 643 = .ok (.invokevirtual 105, 3) := by decide +kernel
theorem dL_rules_646 : decode cL_rules 646 = .ok (.aload 7, 2) := by decide +kernel
theorem dL_rules_648 : decode cL_rules 648 = .ok (.bipush 7, 2) := by decide +kernel
theorem dL_rules_650 : decode cL_rules 650 = .ok (.iload 8, 2) := by decide +kernel
theorem dL_rules_652 : decode cL_rules 652 = .ok (.iadd, 1) := by decide +kernel
theorem dL_rules_653 : decode cL_rules 653 = .ok (.iaload, 1) := by decide +kernel
theorem dL_rules_654 : decode cL_rules 654 = .ok (.invokestatic 88, 3) := by decide +kernel
theorem dL_rules_657 : decode cL_rules 657 = .ok (.if_icmp .ne 7, 3) := by decide +kernel
theorem dL_rules_660 : decode cL_rules 660 = .ok (.iconst 1, 1) := by decide +kernel
theorem dL_rules_661 : decode cL_rules 661 = .ok (.goto 4, 3) := by decide +kernel
theorem dL_rules_664 : decode cL_rules 664 = .ok (.iconst 0, 1) := by decide +kernel
theorem dL_rules_665 : decode cL_rules 665 = .ok (.ireturn, 1) := by decide +kernel
theorem dL_rules_666 : decode cL_rules 666 = .ok (.iload_n 1, 1) := by decide +kernel
theorem dL_rules_667 : decode cL_rules 667 = .ok (.iconst 5, 1) := by decide +kernel
theorem dL_rules_668 : decode cL_rules 668 = .ok (.if_icmp .eq 19, 3) := by decide +kernel
theorem dL_rules_671 : decode cL_rules 671 = .ok (.aload 7, 2) := by decide +kernel
theorem dL_rules_673 : decode cL_rules 673 = .ok (.iconst 2, 1) := by decide +kernel
theorem dL_rules_674 : decode cL_rules 674 = .ok (.iaload, 1) := by decide +kernel
theorem dL_rules_675 : decode cL_rules 675 = .ok (.ifCond .eq 12, 3) := by decide +kernel
theorem dL_rules_678 : decode cL_rules 678 = .ok (.aload 7, 2) := by decide +kernel
theorem dL_rules_680 : decode cL_rules 680 = .ok (.iconst 4, 1) := by decide +kernel
theorem dL_rules_681 : decode cL_rules 681 = .ok (.iaload, 1) := by decide +kernel
theorem dL_rules_682 : decode cL_rules 682 = .ok (.bipush 6, 2) := by decide +kernel
theorem dL_rules_684 : decode cL_rules 684 = .ok (.if_icmp .ne 55, 3) := by decide +kernel
theorem dL_rules_687 : decode cL_rules 687 = .ok (.aload 7, 2) := by decide +kernel
theorem dL_rules_689 : decode cL_rules 689 = .ok (.bipush 7, 2) := by decide +kernel
theorem dL_rules_691 : decode cL_rules 691 = .ok (.iload 8, 2) := by decide +kernel
theorem dL_rules_693 : decode cL_rules 693 = .ok (.iadd, 1) := by decide +kernel
theorem dL_rules_694 : decode cL_rules 694 = .ok (.iaload, 1) := by decide +kernel
theorem dL_rules_695 : decode cL_rules 695 = .ok (.aload 7, 2) := by decide +kernel
theorem dL_rules_697 : decode cL_rules 697 = .ok (.iconst 5, 1) := by decide +kernel
theorem dL_rules_698 : decode cL_rules 698 = .ok (.iaload, 1) := by decide +kernel
theorem dL_rules_699 : decode cL_rules 699 = .ok (.iand, 1) := by decide +kernel
theorem dL_rules_700 : decode cL_rules 700 = .ok (.invokestatic 88, 3) := by decide +kernel
theorem dL_rules_703 : decode cL_rules 703 = .ok (.istore 9, 2) := by decide +kernel
theorem dL_rules_705 : decode cL_rules 705 = .ok (.aload 7, 2) := by decide +kernel
theorem dL_rules_707 : decode cL_rules 707 = .ok (.bipush 7, 2) := by decide +kernel
theorem dL_rules_709 : decode cL_rules 709 = .ok (.iload 8, 2) := by decide +kernel
theorem dL_rules_711 : decode cL_rules 711 = .ok (.iadd, 1) := by decide +kernel
theorem dL_rules_712 : decode cL_rules 712 = .ok (.dup2, 1) := by decide +kernel
theorem dL_rules_713 : decode cL_rules 713 = .ok (.iaload, 1) := by decide +kernel
theorem dL_rules_714 : decode cL_rules 714 = .ok (.aload 7, 2) := by decide +kernel
theorem dL_rules_716 : decode cL_rules 716 = .ok (.iconst 5, 1) := by decide +kernel
theorem dL_rules_717 : decode cL_rules 717 = .ok (.iaload, 1) := by decide +kernel
theorem dL_rules_718 : decode cL_rules 718 = .ok (.iconst (-1), 1) := by decide +kernel
theorem dL_rules_719 : decode cL_rules 719 = .ok (.ixor, 1) := by decide +kernel
theorem dL_rules_720 : decode cL_rules 720 = .ok (.iand, 1) := by decide +kernel
theorem dL_rules_721 : decode cL_rules 721 = .ok (.iastore, 1) := by decide +kernel
theorem dL_rules_722 : decode cL_rules 722 = .ok (.aload_n 0, 1) := by decide +kernel
theorem dL_rules_723 : decode cL_rules 723 = .ok (.iload 8, 2) := by decide +kernel
theorem dL_rules_725 : decode cL_rules 725 = .ok (.invokevirtual 108, 3) := by decide +kernel
theorem dL_rules_728 : decode cL_rules 728 = .ok (.iload 9, 2) := by decide +kernel
theorem dL_rules_730 : decode cL_rules 730 = .ok (.if_icmp .ne 7, 3) := by decide +kernel
theorem dL_rules_733 : decode cL_rules 733 = .ok (.iconst 1, 1) := by decide +kernel
theorem dL_rules_734 : decode cL_rules 734 = .ok (.goto 4, 3) := by decide +kernel
theorem dL_rules_737 : decode cL_rules 737 = .ok (.iconst 0, 1) := by decide +kernel
theorem dL_rules_738 : decode cL_rules 738 = .ok (.ireturn, 1) := by decide +kernel
theorem dL_rules_739 : decode cL_rules 739 = .ok (.iload_n 2, 1) := by decide +kernel
theorem dL_rules_740 : decode cL_rules 740 = .ok (.aload 7, 2) := by decide +kernel
theorem dL_rules_742 : decode cL_rules 742 = .ok (.iconst 2, 1) := by decide +kernel
theorem dL_rules_743 : decode cL_rules 743 = .ok (.iaload, 1) := by decide +kernel
theorem dL_rules_744 : decode cL_rules 744 = .ok (.invokestatic 58, 3) := by decide +kernel
theorem dL_rules_747 : decode cL_rules 747 = .ok (.istore 9, 2) := by decide +kernel
theorem dL_rules_749 : decode cL_rules 749 = .ok (.aload 7, 2) := by decide +kernel
theorem dL_rules_751 : decode cL_rules 751 = .ok (.iconst 5, 1) := by decide +kernel
theorem dL_rules_752 : decode cL_rules 752 = .ok (.iaload, 1) := by decide +kernel
theorem dL_rules_753 : decode cL_rules 753 = .ok (.iload 9, 2) := by decide +kernel
theorem dL_rules_755 : decode cL_rules 755 = .ok (.ishr, 1) := by decide +kernel
theorem dL_rules_756 : decode cL_rules 756 = .ok (.iconst 1, 1) := by decide +kernel
theorem dL_rules_757 : decode cL_rules 757 = .ok (.iand, 1) := by decide +kernel
theorem dL_rules_758 : decode cL_rules 758 = .ok (.ifCond .ne 7, 3) := by decide +kernel
theorem dL_rules_761 : decode cL_rules 761 = .ok (.iconst 1, 1) := by decide +kernel
theorem dL_rules_762 : decode cL_rules 762 = .ok (.goto 4, 3) := by decide +kernel
theorem dL_rules_765 : decode cL_rules 765 = .ok (.iconst 0, 1) := by decide +kernel
theorem dL_rules_766 : decode cL_rules 766 = .ok (.istore 10, 2) := by decide +kernel
theorem dL_rules_768 : decode cL_rules 768 = .ok (.aload 6, 2) := by decide +kernel
theorem dL_rules_770 : decode cL_rules 770 = .ok (.aload 7, 2) := by decide +kernel
theorem dL_rules_772 : decode cL_rules 772 = .ok (.iconst 4, 1) := by decide +kernel
theorem dL_rules_773 : decode cL_rules 773 = .ok (.iaload, 1) := by decide +kernel
theorem dL_rules_774 : decode cL_rules 774 = .ok (.iload 10, 2) := by decide +kernel
theorem dL_rules_776 : decode cL_rules 776 = .ok (.ifCond .eq 8, 3) := by decide +kernel
theorem dL_rules_779 : decode cL_rules 779 = .ok (.iload 9, 2) := by decide +kernel
theorem dL_rules_781 : decode cL_rules 781 = .ok (.goto 4, 3) := by decide +kernel
theorem dL_rules_784 : decode cL_rules 784 = .ok (.iconst 0, 1) := by decide +kernel
theorem dL_rules_785 : decode cL_rules 785 = .ok (.iastore, 1) := by decide +kernel
theorem dL_rules_786 : decode cL_rules 786 = .ok (.aload 7, 2) := by decide +kernel
theorem dL_rules_788 : decode cL_rules 788 = .ok (.iconst 4, 1) := by decide +kernel
theorem dL_rules_789 : decode cL_rules 789 = .ok (.dup2, 1) := by decide +kernel
theorem dL_rules_790 : decode cL_rules 790 = .ok (.iaload, 1) := by decide +kernel
theorem dL_rules_791 : decode cL_rules 791 = .ok (.iload 10, 2) := by decide +kernel
theorem dL_rules_793 : decode cL_rules 793 = .ok (.ifCond .eq 7, 3) := by decide +kernel
theorem dL_rules_796 : decode cL_rules 796 = .ok (.iconst 1, 1) := by decide +kernel
theorem dL_rules_797 : decode cL_rules 797 = .ok (.goto 4, 3) := by decide +kernel
theorem dL_rules_800 : decode cL_rules 800 = .ok (.iconst 0, 1) := by decide +kernel
theorem dL_rules_801 : decode cL_rules 801 = .ok (.iadd, 1) := by decide +kernel
theorem dL_rules_802 : decode cL_rules 802 = .ok (.iastore, 1) := by decide +kernel
theorem dL_rules_803 : decode cL_rules 803 = .ok (.aload_n 0, 1) := by decide +kernel
theorem dL_rules_804 : decode cL_rules 804 = .ok (.iconst 4, 1) := by decide +kernel
theorem dL_rules_805 : decode cL_rules 805 = .ok (.iload 9, 2) := by decide +kernel
theorem dL_rules_807 : decode cL_rules 807 = .ok (.iconst 0, 1) := by decide +kernel
theorem dL_rules_808 : decode cL_rules 808 = .ok (.iconst 0, 1) := by decide +kernel
theorem dL_rules_809 : decode cL_rules 809 = .ok (.iconst 0, 1) := by decide +kernel
theorem dL_rules_810 : decode cL_rules 810 = .ok (.invokestatic 94, 3) := by decide +kernel
theorem dL_rules_813 : decode cL_rules 813 = .ok (.iload 10, 2) := by decide +kernel
theorem dL_rules_815 : decode cL_rules 815 = .ok (.ifCond .eq 12, 3) := by decide +kernel
theorem dL_rules_818 : decode cL_rules 818 = .ok (.aload 7, 2) := by decide +kernel
theorem dL_rules_820 : decode cL_rules 820 = .ok (.iconst 4, 1) := by decide +kernel
theorem dL_rules_821 : decode cL_rules 821 = .ok (.iaload, 1) := by decide +kernel
theorem dL_rules_822 : decode cL_rules 822 = .ok (.iconst 1, 1) := by decide +kernel
theorem dL_rules_823 : decode cL_rules 823 = .ok (.isub, 1) := by decide +kernel
theorem dL_rules_824 : decode cL_rules 824 = .ok (.goto 5, 3) := by decide +kernel
theorem dL_rules_827 : decode cL_rules 827 = .ok (.bipush (-3), 2) := by decide +kernel
theorem dL_rules_829 : decode cL_rules 829 = .ok (.if_icmp .ne 7, 3) := by decide +kernel
theorem dL_rules_832 : decode cL_rules 832 = .ok (.iconst 1, 1) := by decide +kernel
theorem dL_rules_833 : decode cL_rules 833 = .ok (.goto 4, 3) := by decide +kernel
theorem dL_rules_836 : decode cL_rules 836 = .ok (.iconst 0, 1) := by decide +kernel
theorem dL_rules_837 : decode cL_rules 837 = .ok (.ireturn, 1) := by decide +kernel
theorem dL_law_0 : decode cL_law 0 = .ok (.new 11, 3) := by decide +kernel
theorem dL_law_3 : decode cL_law 3 = .ok (.dup, 1) := by decide +kernel
theorem dL_law_4 : decode cL_law 4 = .ok (.invokespecial 111, 3) := by decide +kernel
theorem dL_law_7 : decode cL_law 7 = .ok (.astore_n 1, 1) := by decide +kernel
theorem dL_law_8 : decode cL_law 8 = .ok (.bipush 14, 2) := by decide +kernel
theorem dL_law_10 : decode cL_law 10 = .ok (.newarray .int, 2) := by decide +kernel
theorem dL_law_12 : decode cL_law 12 = .ok (.astore_n 2, 1) := by decide +kernel
theorem dL_law_13 : decode cL_law 13 = .ok (.bipush 64, 2) := by decide +kernel
theorem dL_law_15 : decode cL_law 15 = .ok (.newarray .int, 2) := by decide +kernel
theorem dL_law_17 : decode cL_law 17 = .ok (.astore_n 3, 1) := by decide +kernel
theorem dL_law_18 : decode cL_law 18 = .ok (.bipush 16, 2) := by decide +kernel
theorem dL_law_20 : decode cL_law 20 = .ok (.newarray .int, 2) := by decide +kernel
theorem dL_law_22 : decode cL_law 22 = .ok (.astore 4, 2) := by decide +kernel
theorem dL_law_24 : decode cL_law 24 = .ok (.bipush 48, 2) := by decide +kernel
theorem dL_law_26 : decode cL_law 26 = .ok (.newarray .int, 2) := by decide +kernel
theorem dL_law_28 : decode cL_law 28 = .ok (.astore 5, 2) := by decide +kernel
theorem dL_law_30 : decode cL_law 30 = .ok (.bipush 8, 2) := by decide +kernel
theorem dL_law_32 : decode cL_law 32 = .ok (.newarray .int, 2) := by decide +kernel
theorem dL_law_34 : decode cL_law 34 = .ok (.astore 6, 2) := by decide +kernel
theorem dL_law_36 : decode cL_law 36 = .ok (.bipush 6, 2) := by decide +kernel
theorem dL_law_38 : decode cL_law 38 = .ok (.newarray .int, 2) := by decide +kernel
theorem dL_law_40 : decode cL_law 40 = .ok (.astore 7, 2) := by decide +kernel
theorem dL_law_42 : decode cL_law 42 = .ok (.bipush 8, 2) := by decide +kernel
theorem dL_law_44 : decode cL_law 44 = .ok (.newarray .int, 2) := by decide +kernel
theorem dL_law_46 : decode cL_law 46 = .ok (.astore 8, 2) := by decide +kernel
theorem dL_law_48 : decode cL_law 48 = .ok (.bipush 8, 2) := by decide +kernel
theorem dL_law_50 : decode cL_law 50 = .ok (.newarray .int, 2) := by decide +kernel
theorem dL_law_52 : decode cL_law 52 = .ok (.astore 9, 2) := by decide +kernel
theorem dL_law_54 : decode cL_law 54 = .ok (.bipush 9, 2) := by decide +kernel
theorem dL_law_56 : decode cL_law 56 = .ok (.newarray .int, 2) := by decide +kernel
theorem dL_law_58 : decode cL_law 58 = .ok (.astore 10, 2) := by decide +kernel
theorem dL_law_60 : decode cL_law 60 = .ok (.bipush 10, 2) := by decide +kernel
theorem dL_law_62 : decode cL_law 62 = .ok (.istore 11, 2) := by decide +kernel
theorem dL_law_64 : decode cL_law 64 = .ok (.iload 11, 2) := by decide +kernel
theorem dL_law_66 : decode cL_law 66 = .ok (.bipush 14, 2) := by decide +kernel
theorem dL_law_68 : decode cL_law 68 = .ok (.if_icmp .ge 14, 3) := by decide +kernel
theorem dL_law_71 : decode cL_law 71 = .ok (.aload_n 2, 1) := by decide +kernel
theorem dL_law_72 : decode cL_law 72 = .ok (.iload 11, 2) := by decide +kernel
theorem dL_law_74 : decode cL_law 74 = .ok (.iconst (-1), 1) := by decide +kernel
theorem dL_law_75 : decode cL_law 75 = .ok (.iastore, 1) := by decide +kernel
theorem dL_law_76 : decode cL_law 76 = .ok (.iinc 11 1, 3) := by decide +kernel
theorem dL_law_79 : decode cL_law 79 = .ok (.goto (-15), 3) := by decide +kernel
theorem dL_law_82 : decode cL_law 82 = .ok (.iconst 0, 1) := by decide +kernel
theorem dL_law_83 : decode cL_law 83 = .ok (.istore 11, 2) := by decide +kernel
theorem dL_law_85 : decode cL_law 85 = .ok (.iload 11, 2) := by decide +kernel
theorem dL_law_87 : decode cL_law 87 = .ok (.bipush 100, 2) := by decide +kernel
theorem dL_law_89 : decode cL_law 89 = .ok (.if_icmp .ge 157, 3) := by decide +kernel
theorem dL_law_92 : decode cL_law 92 = .ok (.aload_n 0, 1) := by decide +kernel
theorem dL_law_93 : decode cL_law 93 = .ok (.iload 11, 2) := by decide +kernel
theorem dL_law_95 : decode cL_law 95 = .ok (.invokestatic 112, 3) := by decide +kernel
theorem dL_law_98 : decode cL_law 98 = .ok (.istore 12, 2) := by decide +kernel
theorem dL_law_100 : decode cL_law 100 = .ok (.iload 12, 2) := by decide +kernel
theorem dL_law_102 : decode cL_law 102 = .ok (.bipush 20, 2) := by decide +kernel
theorem dL_law_104 : decode cL_law 104 = .ok (.invokestatic 58, 3) := by decide +kernel
theorem dL_law_107 : decode cL_law 107 = .ok (.istore 13, 2) := by decide +kernel
theorem dL_law_109 : decode cL_law 109 = .ok (.iload 13, 2) := by decide +kernel
theorem dL_law_111 : decode cL_law 111 = .ok (.bipush 11, 2) := by decide +kernel
theorem dL_law_113 : decode cL_law 113 = .ok (.if_icmp .ge 43, 3) := by decide +kernel
theorem dL_law_116 : decode cL_law 116 = .ok (.aload_n 1, 1) := by decide +kernel
theorem dL_law_117 : decode cL_law 117 = .ok (.iload 13, 2) := by decide +kernel
theorem dL_law_119 : decode cL_law 119 = .ok (.bipush 8, 2) := by decide +kernel
theorem dL_law_121 : decode cL_law 121 = .ok (.if_icmp .le 7, 3) := by decide +kernel
theorem dL_law_124 : decode cL_law 124 = .ok (.iconst 5, 1) := by decide +kernel
theorem dL_law_125 : decode cL_law 125 = .ok (.goto 17, 3) := by decide +kernel
theorem dL_law_128 : decode cL_law 128 = .ok (.iload 13, 2) := by decide +kernel
theorem dL_law_130 : decode cL_law 130 = .ok (.bipush 6, 2) := by decide +kernel
theorem dL_law_132 : decode cL_law 132 = .ok (.if_icmp .le 8, 3) := by decide +kernel
theorem dL_law_135 : decode cL_law 135 = .ok (.bipush 7, 2) := by decide +kernel
theorem dL_law_137 : decode cL_law 137 = .ok (.goto 5, 3) := by decide +kernel
theorem dL_law_140 : decode cL_law 140 = .ok (.iload 13, 2) := by decide +kernel
theorem dL_law_142 : decode cL_law 142 = .ok (.iload 12, 2) := by decide +kernel
theorem dL_law_144 : decode cL_law 144 = .ok (.iconst 5, 1) := by decide +kernel
theorem dL_law_145 : decode cL_law 145 = .ok (.ishr, 1) := by decide +kernel
theorem dL_law_146 : decode cL_law 146 = .ok (.aload_n 3, 1) := by decide +kernel
theorem dL_law_147 : decode cL_law 147 = .ok (.aload 4, 2) := by decide +kernel
theorem dL_law_149 : decode cL_law 149 = .ok (.aload_n 2, 1) := by decide +kernel
theorem dL_law_150 : decode cL_law 150 = .ok (.invokestatic 116, 3) := by decide +kernel
theorem dL_law_153 : decode cL_law 153 = .ok (.goto 46, 3) := by decide +kernel
theorem dL_law_156 : decode cL_law 156 = .ok (.aload_n 1, 1) := by decide +kernel
theorem dL_law_157 : decode cL_law 157 = .ok (.iload 13, 2) := by decide +kernel
theorem dL_law_159 : decode cL_law 159 = .ok (.bipush 13, 2) := by decide +kernel
theorem dL_law_161 : decode cL_law 161 = .ok (.if_icmp .ge 7, 3) := by decide +kernel
theorem dL_law_164 : decode cL_law 164 = .ok (.iconst 0, 1) := by decide +kernel
theorem dL_law_165 : decode cL_law 165 = .ok (.goto 19, 3) := by decide +kernel
theorem dL_law_168 : decode cL_law 168 = .ok (.iload 13, 2) := by decide +kernel
theorem dL_law_170 : decode cL_law 170 = .ok (.bipush 15, 2) := by decide +kernel
theorem dL_law_172 : decode cL_law 172 = .ok (.if_icmp .ge 7, 3) := by decide +kernel
theorem dL_law_175 : decode cL_law 175 = .ok (.iconst 1, 1) := by decide +kernel
theorem dL_law_176 : decode cL_law 176 = .ok (.goto 8, 3) := by decide +kernel
theorem dL_law_179 : decode cL_law 179 = .ok (.iload 13, 2) := by decide +kernel
theorem dL_law_181 : decode cL_law 181 = .ok (.bipush 12, 2) := by decide +kernel
theorem dL_law_183 : decode cL_law 183 = .ok (.isub, 1) := by decide +kernel
theorem dL_law_184 : decode cL_law 184 = .ok (.iload 12, 2) := by decide +kernel
theorem dL_law_186 : decode cL_law 186 = .ok (.iconst 5, 1) := by decide +kernel
theorem dL_law_187 : decode cL_law 187 = .ok (.ishr, 1) := by decide +kernel
theorem dL_law_188 : decode cL_law 188 = .ok (.aload_n 3, 1) := by decide +kernel
theorem dL_law_189 : decode cL_law 189 = .ok (.aload 5, 2) := by decide +kernel
theorem dL_law_191 : decode cL_law 191 = .ok (.aload 6, 2) := by decide +kernel
theorem dL_law_193 : decode cL_law 193 = .ok (.aload 7, 2) := by decide +kernel
theorem dL_law_195 : decode cL_law 195 = .ok (.aload_n 2, 1) := by decide +kernel
theorem dL_law_196 : decode cL_law 196 = .ok (.invokestatic 120, 3) := by decide +kernel
theorem dL_law_199 : decode cL_law 199 = .ok (.istore 14, 2) := by decide +kernel
theorem dL_law_201 : decode cL_law 201 = .ok (.iload 14, 2) := by decide +kernel
theorem dL_law_203 : decode cL_law 203 = .ok (.ifCond .eq 35, 3) := by decide +kernel
theorem dL_law_206 : decode cL_law 206 = .ok (.iload 11, 2) := by decide +kernel
theorem dL_law_208 : decode cL_law 208 = .ok (.iconst 3, 1) := by decide +kernel
theorem dL_law_209 : decode cL_law 209 = .ok (.irem, 1) := by decide +kernel
theorem dL_law_210 : decode cL_law 210 = .ok (.ifCond .ne 30, 3) := by decide +kernel
theorem dL_law_213 : decode cL_law 213 = .ok (.aload_n 1, 1) := by decide +kernel
theorem dL_law_214 : decode cL_law 214 = .ok (.iload 12, 2) := by decide +kernel
theorem dL_law_216 : decode cL_law 216 = .ok (.iconst 3, 1) := by decide +kernel
theorem dL_law_217 : decode cL_law 217 = .ok (.ishr, 1) := by decide +kernel
theorem dL_law_218 : decode cL_law 218 = .ok (.aload_n 3, 1) := by decide +kernel
theorem dL_law_219 : decode cL_law 219 = .ok (.aload 4, 2) := by decide +kernel
theorem dL_law_221 : decode cL_law 221 = .ok (.aload 5, 2) := by decide +kernel
theorem dL_law_223 : decode cL_law 223 = .ok (.aload 7, 2) := by decide +kernel
theorem dL_law_225 : decode cL_law 225 = .ok (.aload 8, 2) := by decide +kernel
theorem dL_law_227 : decode cL_law 227 = .ok (.aload 9, 2) := by decide +kernel
theorem dL_law_229 : decode cL_law 229 = .ok (.aload 10, 2) := by decide +kernel
theorem dL_law_231 : decode cL_law 231 = .ok (.aload_n 2, 1) := by decide +kernel
theorem dL_law_232 : decode cL_law 232 = .ok (.invokestatic 124, 3) := by decide +kernel
theorem dL_law_235 : decode cL_law 235 = .ok (.ifCond .ne 5, 3) := by decide +kernel
theorem dL_law_238 : decode cL_law 238 = .ok (.iconst 0, 1) := by decide +kernel
theorem dL_law_239 : decode cL_law 239 = .ok (.ireturn, 1) := by decide +kernel
theorem dL_law_240 : decode cL_law 240 = .ok (.iinc 11 1, 3) := by decide +kernel
theorem dL_law_243 : decode cL_law 243 = .ok (.goto (-158), 3) := by decide +kernel
theorem dL_law_246 : decode cL_law 246 = .ok (.iconst 1, 1) := by decide +kernel
theorem dL_law_247 : decode cL_law 247 = .ok (.ireturn, 1) := by decide +kernel
