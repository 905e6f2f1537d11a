theorem dL_cell_0 : decode cL_cell 0 = .ok (.iload_n 1, 1) := by decide +kernel
theorem dL_cell_1 : decode cL_cell 1 = .ok (.aload_n 0, 1) := by decide +kernel
theorem dL_cell_2 : decode cL_cell 2 = .ok (.arraylength, 1) := by decide +kernel
theorem dL_cell_3 : decode cL_cell 3 = .ok (.if_icmp .ge 9, 3) := by decide +kernel
theorem dL_cell_6 : decode cL_cell 6 = .ok (.aload_n 0, 1) := by decide +kernel
theorem dL_cell_7 : decode cL_cell 7 = .ok (.iload_n 1, 1) := by decide +kernel
theorem dL_cell_8 : decode cL_cell 8 = .ok (.iaload, 1) := by decide +kernel
theorem dL_cell_9 : decode cL_cell 9 = .ok (.goto 11, 3) := by decide +kernel
theorem dL_cell_12 : decode cL_cell 12 = .ok (.sipush 27011, 3) := by decide +kernel
theorem dL_cell_15 : decode cL_cell 15 = .ok (.iload_n 1, 1) := by decide +kernel
theorem dL_cell_16 : decode cL_cell 16 = .ok (.bipush 19, 2) := by decide +kernel
theorem dL_cell_18 : decode cL_cell 18 = .ok (.iadd, 1) := by decide +kernel
theorem dL_cell_19 : decode cL_cell 19 = .ok (.imul, 1) := by decide +kernel
theorem dL_cell_20 : decode cL_cell 20 = .ok (.istore_n 2, 1) := by decide +kernel
theorem dL_cell_21 : decode cL_cell 21 = .ok (.iload_n 2, 1) := by decide +kernel
theorem dL_cell_22 : decode cL_cell 22 = .ok (.iload_n 2, 1) := by decide +kernel
theorem dL_cell_23 : decode cL_cell 23 = .ok (.bipush 14, 2) := by decide +kernel
theorem dL_cell_25 : decode cL_cell 25 = .ok (.iushr, 1) := by decide +kernel
theorem dL_cell_26 : decode cL_cell 26 = .ok (.ixor, 1) := by decide +kernel
theorem dL_cell_27 : decode cL_cell 27 = .ok (.ldc 7, 2) := by decide +kernel
theorem dL_cell_29 : decode cL_cell 29 = .ok (.imul, 1) := by decide +kernel
theorem dL_cell_30 : decode cL_cell 30 = .ok (.bipush 71, 2) := by decide +kernel
theorem dL_cell_32 : decode cL_cell 32 = .ok (.iload_n 1, 1) := by decide +kernel
theorem dL_cell_33 : decode cL_cell 33 = .ok (.imul, 1) := by decide +kernel
theorem dL_cell_34 : decode cL_cell 34 = .ok (.iadd, 1) := by decide +kernel
theorem dL_cell_35 : decode cL_cell 35 = .ok (.ireturn, 1) := by decide +kernel
theorem dL_some_0 : decode cL_some 0 = .ok (.iload_n 0, 1) := by decide +kernel
theorem dL_some_1 : decode cL_some 1 = .ok (.iconst 1, 1) := by decide +kernel
theorem dL_some_2 : decode cL_some 2 = .ok (.iushr, 1) := by decide +kernel
theorem dL_some_3 : decode cL_some 3 = .ok (.iload_n 1, 1) := by decide +kernel
theorem dL_some_4 : decode cL_some 4 = .ok (.irem, 1) := by decide +kernel
theorem dL_some_5 : decode cL_some 5 = .ok (.ireturn, 1) := by decide +kernel
theorem dL_sets_0 : decode cL_sets 0 = .ok (.iload_n 1, 1) := by decide +kernel
theorem dL_sets_1 : decode cL_sets 1 = .ok (.ifCond .ne 11, 3) := by decide +kernel
theorem dL_sets_4 : decode cL_sets 4 = .ok (.aload_n 0, 1) := by decide +kernel
theorem dL_sets_5 : decode cL_sets 5 = .ok (.iload_n 2, 1) := by decide +kernel
theorem dL_sets_6 : decode cL_sets 6 = .ok (.invokevirtual 8, 3) := by decide +kernel
theorem dL_sets_9 : decode cL_sets 9 = .ok (.goto 124, 3) := by decide +kernel
theorem dL_sets_12 : decode cL_sets 12 = .ok (.iload_n 1, 1) := by decide +kernel
theorem dL_sets_13 : decode cL_sets 13 = .ok (.iconst 1, 1) := by decide +kernel
theorem dL_sets_14 : decode cL_sets 14 = .ok (.if_icmp .ne 12, 3) := by decide +kernel
theorem dL_sets_17 : decode cL_sets 17 = .ok (.aload_n 0, 1) := by decide +kernel
theorem dL_sets_18 : decode cL_sets 18 = .ok (.iload_n 2, 1) := by decide +kernel
theorem dL_sets_19 : decode cL_sets 19 = .ok (.iload_n 3, 1) := by decide +kernel
theorem dL_sets_20 : decode cL_sets 20 = .ok (.invokevirtual 14, 3) := by decide +kernel
theorem dL_sets_23 : decode cL_sets 23 = .ok (.goto 110, 3) := by decide +kernel
theorem dL_sets_26 : decode cL_sets 26 = .ok (.iload_n 1, 1) := by decide +kernel
theorem dL_sets_27 : decode cL_sets 27 = .ok (.iconst 2, 1) := by decide +kernel
theorem dL_sets_28 : decode cL_sets 28 = .ok (.if_icmp .ne 14, 3) := by decide +kernel
theorem dL_sets_31 : decode cL_sets 31 = .ok (.aload_n 0, 1) := by decide +kernel
theorem dL_sets_32 : decode cL_sets 32 = .ok (.iload_n 2, 1) := by decide +kernel
theorem dL_sets_33 : decode cL_sets 33 = .ok (.iload_n 3, 1) := by decide +kernel
theorem dL_sets_34 : decode cL_sets 34 = .ok (.iload 4, 2) := by decide +kernel
theorem dL_sets_36 : decode cL_sets 36 = .ok (.invokevirtual 18, 3) := by decide +kernel
theorem dL_sets_39 : decode cL_sets 39 = .ok (.goto 94, 3) := by decide +kernel
theorem dL_sets_42 : decode cL_sets 42 = .ok (.iload_n 1, 1) := by decide +kernel
theorem dL_sets_43 : decode cL_sets 43 = .ok (.iconst 3, 1) := by decide +kernel
theorem dL_sets_44 : decode cL_sets 44 = .ok (.if_icmp .ne 11, 3) := by decide +kernel
theorem dL_sets_47 : decode cL_sets 47 = .ok (.aload_n 0, 1) := by decide +kernel
theorem dL_sets_48 : decode cL_sets 48 = .ok (.iload_n 2, 1) := by decide +kernel
theorem dL_sets_49 : decode cL_sets 49 = .ok (.invokevirtual 22, 3) := by decide +kernel
theorem dL_sets_52 : decode cL_sets 52 = .ok (.goto 81, 3) := by decide +kernel
theorem dL_sets_55 : decode cL_sets 55 = .ok (.iload_n 1, 1) := by decide +kernel
theorem dL_sets_56 : decode cL_sets 56 = .ok (.iconst 4, 1) := by decide +kernel
theorem dL_sets_57 : decode cL_sets 57 = .ok (.if_icmp .ne 11, 3) := by decide +kernel
theorem dL_sets_60 : decode cL_sets 60 = .ok (.aload_n 0, 1) := by decide +kernel
theorem dL_sets_61 : decode cL_sets 61 = .ok (.iload_n 2, 1) := by decide +kernel
theorem dL_sets_62 : decode cL_sets 62 = .ok (.invokevirtual 25, 3) := by decide +kernel
theorem dL_sets_65 : decode cL_sets 65 = .ok (.goto 68, 3) := by decide +kernel
theorem dL_sets_68 : decode cL_sets 68 = .ok (.iload_n 1, 1) := by decide +kernel
theorem dL_sets_69 : decode cL_sets 69 = .ok (.iconst 5, 1) := by decide +kernel
theorem dL_sets_70 : decode cL_sets 70 = .ok (.if_icmp .ne 14, 3) := by decide +kernel
theorem dL_sets_73 : decode cL_sets 73 = .ok (.aload_n 0, 1) := by decide +kernel
theorem dL_sets_74 : decode cL_sets 74 = .ok (.iload_n 2, 1) := by decide +kernel
theorem dL_sets_75 : decode cL_sets 75 = .ok (.iload_n 3, 1) := by decide +kernel
theorem dL_sets_76 : decode cL_sets 76 = .ok (.iload 4, 2) := by decide +kernel
theorem dL_sets_78 : decode cL_sets 78 = .ok (.invokevirtual 28, 3) := by decide +kernel
theorem dL_sets_81 : decode cL_sets 81 = .ok (.goto 52, 3) := by decide +kernel
theorem dL_sets_84 : decode cL_sets 84 = .ok (.iload_n 1, 1) := by decide +kernel
theorem dL_sets_85 : decode cL_sets 85 = .ok (.bipush 6, 2) := by decide +kernel
theorem dL_sets_87 : decode cL_sets 87 = .ok (.if_icmp .ne 12, 3) := by decide +kernel
theorem dL_sets_90 : decode cL_sets 90 = .ok (.aload_n 0, 1) := by decide +kernel
theorem dL_sets_91 : decode cL_sets 91 = .ok (.iload_n 2, 1) := by decide +kernel
theorem dL_sets_92 : decode cL_sets 92 = .ok (.iload_n 3, 1) := by decide +kernel
theorem dL_sets_93 : decode cL_sets 93 = .ok (.invokevirtual 31, 3) := by decide +kernel
theorem dL_sets_96 : decode cL_sets 96 = .ok (.goto 37, 3) := by decide +kernel
theorem dL_sets_99 : decode cL_sets 99 = .ok (.iload_n 1, 1) := by decide +kernel
theorem dL_sets_100 : decode cL_sets 100 = .ok (.bipush 7, 2) := by decide +kernel
theorem dL_sets_102 : decode cL_sets 102 = .ok (.if_icmp .ne 11, 3) := by decide +kernel
theorem dL_sets_105 : decode cL_sets 105 = .ok (.aload_n 0, 1) := by decide +kernel
theorem dL_sets_106 : decode cL_sets 106 = .ok (.iload_n 2, 1) := by decide +kernel
theorem dL_sets_107 : decode cL_sets 107 = .ok (.invokevirtual 34, 3) := by decide +kernel
theorem dL_sets_110 : decode cL_sets 110 = .ok (.goto 23, 3) := by decide +kernel
theorem dL_sets_113 : decode cL_sets 113 = .ok (.iload_n 1, 1) := by decide +kernel
theorem dL_sets_114 : decode cL_sets 114 = .ok (.bipush 8, 2) := by decide +kernel
theorem dL_sets_116 : decode cL_sets 116 = .ok (.if_icmp .ne 11, 3) := by decide +kernel
theorem dL_sets_119 : decode cL_sets 119 = .ok (.aload_n 0, 1) := by decide +kernel
theorem dL_sets_120 : decode cL_sets 120 = .ok (.iload_n 2, 1) := by decide +kernel
theorem dL_sets_121 : decode cL_sets 121 = .ok (.invokevirtual 37, 3) := by decide +kernel
theorem dL_sets_124 : decode cL_sets 124 = .ok (.goto 9, 3) := by decide +kernel
theorem dL_sets_127 : decode cL_sets 127 = .ok (.aload_n 0, 1) := by decide +kernel
theorem dL_sets_128 : decode cL_sets 128 = .ok (.iload_n 2, 1) := by decide +kernel
theorem dL_sets_129 : decode cL_sets 129 = .ok (.iload_n 3, 1) := by decide +kernel
theorem dL_sets_130 : decode cL_sets 130 = .ok (.invokevirtual 40, 3) := by decide +kernel
theorem dL_sets_133 : decode cL_sets 133 = .ok (.ireturn, 1) := by decide +kernel
theorem dL_sets_134 : decode cL_sets 134 = .ok (.astore 5, 2) := by decide +kernel
theorem dL_sets_136 : decode cL_sets 136 = .ok (.bipush (-81), 2) := by decide +kernel
theorem dL_sets_138 : decode cL_sets 138 = .ok (.ireturn, 1) := by decide +kernel
theorem dL_sets_139 : decode cL_sets 139 = .ok (.astore 5, 2) := by decide +kernel
theorem dL_sets_141 : decode cL_sets 141 = .ok (.bipush (-82), 2) := by decide +kernel
theorem dL_sets_143 : decode cL_sets 143 = .ok (.ireturn, 1) := by decide +kernel
theorem dL_sets_144 : decode cL_sets 144 = .ok (.astore 5, 2) := by decide +kernel
theorem dL_sets_146 : decode cL_sets 146 = .ok (.bipush (-83), 2) := by decide +kernel
theorem dL_sets_148 : decode cL_sets 148 = .ok (.ireturn, 1) := by decide +kernel
theorem dL_state_0 : decode cL_state 0 = .ok (.aload_n 0, 1) := by decide +kernel
theorem dL_state_1 : decode cL_state 1 = .ok (.iload_n 1, 1) := by decide +kernel
theorem dL_state_2 : decode cL_state 2 = .ok (.iload_n 2, 1) := by decide +kernel
theorem dL_state_3 : decode cL_state 3 = .ok (.iload_n 3, 1) := by decide +kernel
theorem dL_state_4 : decode cL_state 4 = .ok (.iload 4, 2) := by decide +kernel
theorem dL_state_6 : decode cL_state 6 = .ok (.invokevirtual 49, 3) := by decide +kernel
theorem dL_state_9 : decode cL_state 9 = .ok (.iconst 0, 1) := by decide +kernel
theorem dL_state_10 : decode cL_state 10 = .ok (.ireturn, 1) := by decide +kernel
theorem dL_state_11 : decode cL_state 11 = .ok (.astore 5, 2) := by decide +kernel
theorem dL_state_13 : decode cL_state 13 = .ok (.bipush (-82), 2) := by decide +kernel
theorem dL_state_15 : decode cL_state 15 = .ok (.ireturn, 1) := by decide +kernel
theorem dL_all_0 : decode cL_all 0 = .ok (.aload_n 0, 1) := by decide +kernel
theorem dL_all_1 : decode cL_all 1 = .ok (.invokevirtual 53, 3) := by decide +kernel
theorem dL_all_4 : decode cL_all 4 = .ok (.i2l, 1) := by decide +kernel
theorem dL_all_5 : decode cL_all 5 = .ok (.lstore_n 1, 1) := by decide +kernel
theorem dL_all_6 : decode cL_all 6 = .ok (.lload_n 1, 1) := by decide +kernel
theorem dL_all_7 : decode cL_all 7 = .ok (.ldc2_w 57, 3) := by decide +kernel
theorem dL_all_10 : decode cL_all 10 = .ok (.lmul, 1) := by decide +kernel
theorem dL_all_11 : decode cL_all 11 = .ok (.aload_n 0, 1) := by decide +kernel
theorem dL_all_12 : decode cL_all 12 = .ok (.invokevirtual 59, 3) := by decide +kernel
theorem dL_all_15 : decode cL_all 15 = .ok (.i2l, 1) := by decide +kernel
theorem dL_all_16 : decode cL_all 16 = .ok (.ladd, 1) := by decide +kernel
theorem dL_all_17 : decode cL_all 17 = .ok (.ldc2_w 62, 3) := by decide +kernel
theorem dL_all_20 : decode cL_all 20 = .ok (.lmul, 1) := by decide +kernel
theorem dL_all_21 : decode cL_all 21 = .ok (.aload_n 0, 1) := by decide +kernel
theorem dL_all_22 : decode cL_all 22 = .ok (.invokevirtual 64, 3) := by decide +kernel
theorem dL_all_25 : decode cL_all 25 = .ok (.ladd, 1) := by decide +kernel
theorem dL_all_26 : decode cL_all 26 = .ok (.ldc2_w 68, 3) := by decide +kernel
theorem dL_all_29 : decode cL_all 29 = .ok (.lmul, 1) := by decide +kernel
theorem dL_all_30 : decode cL_all 30 = .ok (.aload_n 0, 1) := by decide +kernel
theorem dL_all_31 : decode cL_all 31 = .ok (.invokevirtual 70, 3) := by decide +kernel
theorem dL_all_34 : decode cL_all 34 = .ok (.i2l, 1) := by decide +kernel
theorem dL_all_35 : decode cL_all 35 = .ok (.ladd, 1) := by decide +kernel
theorem dL_all_36 : decode cL_all 36 = .ok (.lstore_n 1, 1) := by decide +kernel
theorem dL_all_37 : decode cL_all 37 = .ok (.lload_n 1, 1) := by decide +kernel
theorem dL_all_38 : decode cL_all 38 = .ok (.ldc2_w 68, 3) := by decide +kernel
theorem dL_all_41 : decode cL_all 41 = .ok (.lmul, 1) := by decide +kernel
theorem dL_all_42 : decode cL_all 42 = .ok (.aload_n 0, 1) := by decide +kernel
theorem dL_all_43 : decode cL_all 43 = .ok (.invokevirtual 73, 3) := by decide +kernel
theorem dL_all_46 : decode cL_all 46 = .ok (.i2l, 1) := by decide +kernel
theorem dL_all_47 : decode cL_all 47 = .ok (.ladd, 1) := by decide +kernel
theorem dL_all_48 : decode cL_all 48 = .ok (.ldc2_w 68, 3) := by decide +kernel
theorem dL_all_51 : decode cL_all 51 = .ok (.lmul, 1) := by decide +kernel
theorem dL_all_52 : decode cL_all 52 = .ok (.aload_n 0, 1) := by decide +kernel
theorem dL_all_53 : decode cL_all 53 = .ok (.invokevirtual 76, 3) := by decide +kernel
theorem dL_all_56 : decode cL_all 56 = .ok (.i2l, 1) := by decide +kernel
theorem dL_all_57 : decode cL_all 57 = .ok (.ladd, 1) := by decide +kernel
theorem dL_all_58 : decode cL_all 58 = .ok (.ldc2_w 79, 3) := by decide +kernel
theorem dL_all_61 : decode cL_all 61 = .ok (.lmul, 1) := by decide +kernel
theorem dL_all_62 : decode cL_all 62 = .ok (.aload_n 0, 1) := by decide +kernel
theorem dL_all_63 : decode cL_all 63 = .ok (.invokevirtual 81, 3) := by decide +kernel
theorem dL_all_66 : decode cL_all 66 = .ok (.i2l, 1) := by decide +kernel
theorem dL_all_67 : decode cL_all 67 = .ok (.ladd, 1) := by decide +kernel
theorem dL_all_68 : decode cL_all 68 = .ok (.lstore_n 1, 1) := by decide +kernel
theorem dL_all_69 : decode cL_all 69 = .ok (.lload_n 1, 1) := by decide +kernel
theorem dL_all_70 : decode cL_all 70 = .ok (.ldc2_w 84, 3) := by decide +kernel
theorem dL_all_73 : decode cL_all 73 = .ok (.lmul, 1) := by decide +kernel
theorem dL_all_74 : decode cL_all 74 = .ok (.aload_n 0, 1) := by decide +kernel
theorem dL_all_75 : decode cL_all 75 = .ok (.invokevirtual 86, 3) := by decide +kernel
theorem dL_all_78 : decode cL_all 78 = .ok (.i2l, 1) := by decide +kernel
theorem dL_all_79 : decode cL_all 79 = .ok (.ladd, 1) := by decide +kernel
theorem dL_all_80 : decode cL_all 80 = .ok (.ldc2_w 68, 3) := by decide +kernel
theorem dL_all_83 : decode cL_all 83 = .ok (.lmul, 1) := by decide +kernel
theorem dL_all_84 : decode cL_all 84 = .ok (.aload_n 0, 1) := by decide +kernel
theorem dL_all_85 : decode cL_all 85 = .ok (.invokevirtual 89, 3) := by decide +kernel
theorem dL_all_88 : decode cL_all 88 = .ok (.i2l, 1) := by decide +kernel
theorem dL_all_89 : decode cL_all 89 = .ok (.ladd, 1) := by decide +kernel
theorem dL_all_90 : decode cL_all 90 = .ok (.ldc2_w 92, 3) := by decide +kernel
theorem dL_all_93 : decode cL_all 93 = .ok (.lmul, 1) := by decide +kernel
theorem dL_all_94 : decode cL_all 94 = .ok (.aload_n 0, 1) := by decide +kernel
theorem dL_all_95 : decode cL_all 95 = .ok (.invokevirtual 94, 3) := by decide +kernel
theorem dL_all_98 : decode cL_all 98 = .ok (.i2l, 1) := by decide +kernel
theorem dL_all_99 : decode cL_all 99 = .ok (.ladd, 1) := by decide +kernel
theorem dL_all_100 : decode cL_all 100 = .ok (.lstore_n 1, 1) := by decide +kernel
theorem dL_all_101 : decode cL_all 101 = .ok (.lload_n 1, 1) := by decide +kernel
theorem dL_all_102 : decode cL_all 102 = .ok (.ldc2_w 57, 3) := by decide +kernel
theorem dL_all_105 : decode cL_all 105 = .ok (.lmul, 1) := by decide +kernel
theorem dL_all_106 : decode cL_all 106 = .ok (.aload_n 0, 1) := by decide +kernel
theorem dL_all_107 : decode cL_all 107 = .ok (.invokevirtual 97, 3) := by decide +kernel
theorem dL_all_110 : decode cL_all 110 = .ok (.i2l, 1) := by decide +kernel
theorem dL_all_111 : decode cL_all 111 = .ok (.ladd, 1) := by decide +kernel
theorem dL_all_112 : decode cL_all 112 = .ok (.ldc2_w 100, 3) := by decide +kernel
theorem dL_all_115 : decode cL_all 115 = .ok (.lmul, 1) := by decide +kernel
theorem dL_all_116 : decode cL_all 116 = .ok (.aload_n 0, 1) := by decide +kernel
theorem dL_all_117 : decode cL_all 117 = .ok (.invokevirtual 102, 3) := by decide +kernel
theorem dL_all_120 : decode cL_all 120 = .ok (.i2l, 1) := by decide +kernel
theorem dL_all_121 : decode cL_all 121 = .ok (.ladd, 1) := by decide +kernel
theorem dL_all_122 : decode cL_all 122 = .ok (.lstore_n 1, 1) := by decide +kernel
theorem dL_all_123 : decode cL_all 123 = .ok (.iconst 1, 1) := by decide +kernel
theorem dL_all_124 : decode cL_all 124 = .ok (.istore_n 3, 1) := by decide +kernel
theorem dL_all_125 : decode cL_all 125 = .ok (.iload_n 3, 1) := by decide +kernel
theorem dL_all_126 : decode cL_all 126 = .ok (.iconst 4, 1) := by decide +kernel
theorem dL_all_127 : decode cL_all 127 = .ok (.if_icmp .ge 33, 3) := by decide +kernel
theorem dL_all_130 : decode cL_all 130 = .ok (.lload_n 1, 1) := by decide +kernel
theorem dL_all_131 : decode cL_all 131 = .ok (.ldc2_w 105, 3) := by decide +kernel
theorem dL_all_134 : decode cL_all 134 = .ok (.lmul, 1) := by decide +kernel
theorem dL_all_135 : decode cL_all 135 = .ok (.aload_n 0, 1) := by decide +kernel
theorem dL_all_136 : decode cL_all 136 = .ok (.iload_n 3, 1) := by decide +kernel
theorem dL_all_137 : decode cL_all 137 = .ok (.invokevirtual 107, 3) := by decide +kernel
theorem dL_all_140 : decode cL_all 140 = .ok (.i2l, 1) := by decide +kernel
theorem dL_all_141 : decode cL_all 141 = .ok (.ladd, 1) := by decide +kernel
theorem dL_all_142 : decode cL_all 142 = .ok (.ldc2_w 68, 3) := by decide +kernel
theorem dL_all_145 : decode cL_all 145 = .ok (.lmul, 1) := by decide +kernel
theorem dL_all_146 : decode cL_all 146 = .ok (.aload_n 0, 1) := by decide +kernel
theorem dL_all_147 : decode cL_all 147 = .ok (.iload_n 3, 1) := by decide +kernel
theorem dL_all_148 : decode cL_all 148 = .ok (.invokevirtual 110, 3) := by decide +kernel
theorem dL_all_151 : decode cL_all 151 = .ok (.i2l, 1) := by decide +kernel
theorem dL_all_152 : decode cL_all 152 = .ok (.ladd, 1) := by decide +kernel
theorem dL_all_153 : decode cL_all 153 = .ok (.lstore_n 1, 1) := by decide +kernel
theorem dL_all_154 : decode cL_all 154 = .ok (.iinc 3 1, 3) := by decide +kernel
theorem dL_all_157 : decode cL_all 157 = .ok (.goto (-32), 3) := by decide +kernel
theorem dL_all_160 : decode cL_all 160 = .ok (.lload_n 1, 1) := by decide +kernel
theorem dL_all_161 : decode cL_all 161 = .ok (.ldc2_w 113, 3) := by decide +kernel
theorem dL_all_164 : decode cL_all 164 = .ok (.lmul, 1) := by decide +kernel
theorem dL_all_165 : decode cL_all 165 = .ok (.aload_n 0, 1) := by decide +kernel
theorem dL_all_166 : decode cL_all 166 = .ok (.aload_n 0, 1) := by decide +kernel
theorem dL_all_167 : decode cL_all 167 = .ok (.invokevirtual 53, 3) := by decide +kernel
theorem dL_all_170 : decode cL_all 170 = .ok (.bipush 50, 2) := by decide +kernel
theorem dL_all_172 : decode cL_all 172 = .ok (.iadd, 1) := by decide +kernel
theorem dL_all_173 : decode cL_all 173 = .ok (.invokevirtual 115, 3) := by decide +kernel
theorem dL_all_176 : decode cL_all 176 = .ok (.ladd, 1) := by decide +kernel
theorem dL_all_177 : decode cL_all 177 = .ok (.lreturn, 1) := by decide +kernel
theorem dL_woke_0 : decode cL_woke 0 = .ok (.aload_n 0, 1) := by decide +kernel
theorem dL_woke_1 : decode cL_woke 1 = .ok (.invokevirtual 59, 3) := by decide +kernel
theorem dL_woke_4 : decode cL_woke 4 = .ok (.ifCond .ne 28, 3) := by decide +kernel
theorem dL_woke_7 : decode cL_woke 7 = .ok (.aload_n 0, 1) := by decide +kernel
theorem dL_woke_8 : decode cL_woke 8 = .ok (.invokevirtual 64, 3) := by decide +kernel
theorem dL_woke_11 : decode cL_woke 11 = .ok (.lload_n 2, 1) := by decide +kernel
theorem dL_woke_12 : decode cL_woke 12 = .ok (.iload_n 1, 1) := by decide +kernel
theorem dL_woke_13 : decode cL_woke 13 = .ok (.ifCond .ne 7, 3) := by decide +kernel
theorem dL_woke_16 : decode cL_woke 16 = .ok (.iconst 0, 1) := by decide +kernel
theorem dL_woke_17 : decode cL_woke 17 = .ok (.goto 5, 3) := by decide +kernel
theorem dL_woke_20 : decode cL_woke 20 = .ok (.iload 4, 2) := by decide +kernel
theorem dL_woke_22 : decode cL_woke 22 = .ok (.i2l, 1) := by decide +kernel
theorem dL_woke_23 : decode cL_woke 23 = .ok (.ladd, 1) := by decide +kernel
theorem dL_woke_24 : decode cL_woke 24 = .ok (.lcmp, 1) := by decide +kernel
theorem dL_woke_25 : decode cL_woke 25 = .ok (.ifCond .ne 7, 3) := by decide +kernel
theorem dL_woke_28 : decode cL_woke 28 = .ok (.iconst 1, 1) := by decide +kernel
theorem dL_woke_29 : decode cL_woke 29 = .ok (.goto 4, 3) := by decide +kernel
theorem dL_woke_32 : decode cL_woke 32 = .ok (.iconst 0, 1) := by decide +kernel
theorem dL_woke_33 : decode cL_woke 33 = .ok (.ireturn, 1) := by decide +kernel
theorem dL_changes_0 : decode cL_changes 0 = .ok (.iload_n 2, 1) := by decide +kernel
theorem dL_changes_1 : decode cL_changes 1 = .ok (.bipush 8, 2) := by decide +kernel
theorem dL_changes_3 : decode cL_changes 3 = .ok (.invokestatic 119, 3) := by decide +kernel
theorem dL_changes_6 : decode cL_changes 6 = .ok (.istore 4, 2) := by decide +kernel
theorem dL_changes_8 : decode cL_changes 8 = .ok (.aload_n 0, 1) := by decide +kernel
theorem dL_changes_9 : decode cL_changes 9 = .ok (.invokevirtual 59, 3) := by decide +kernel
theorem dL_changes_12 : decode cL_changes 12 = .ok (.istore 5, 2) := by decide +kernel
theorem dL_changes_14 : decode cL_changes 14 = .ok (.aload_n 0, 1) := by decide +kernel
theorem dL_changes_15 : decode cL_changes 15 = .ok (.invokevirtual 64, 3) := by decide +kernel
theorem dL_changes_18 : decode cL_changes 18 = .ok (.lstore 6, 2) := by decide +kernel
theorem dL_changes_20 : decode cL_changes 20 = .ok (.aload_n 0, 1) := by decide +kernel
theorem dL_changes_21 : decode cL_changes 21 = .ok (.invokestatic 124, 3) := by decide +kernel
theorem dL_changes_24 : decode cL_changes 24 = .ok (.lstore 8, 2) := by decide +kernel
theorem dL_changes_26 : decode cL_changes 26 = .ok (.aload_n 1, 1) := by decide +kernel
theorem dL_changes_27 : decode cL_changes 27 = .ok (.iconst 0, 1) := by decide +kernel
theorem dL_changes_28 : decode cL_changes 28 = .ok (.iaload, 1) := by decide +kernel
theorem dL_changes_29 : decode cL_changes 29 = .ok (.aload_n 1, 1) := by decide +kernel
theorem dL_changes_30 : decode cL_changes 30 = .ok (.bipush 8, 2) := by decide +kernel
theorem dL_changes_32 : decode cL_changes 32 = .ok (.iload 5, 2) := by decide +kernel
theorem dL_changes_34 : decode cL_changes 34 = .ok (.iadd, 1) := by decide +kernel
theorem dL_changes_35 : decode cL_changes 35 = .ok (.iaload, 1) := by decide +kernel
theorem dL_changes_36 : decode cL_changes 36 = .ok (.imul, 1) := by decide +kernel
theorem dL_changes_37 : decode cL_changes 37 = .ok (.istore 10, 2) := by decide +kernel
theorem dL_changes_39 : decode cL_changes 39 = .ok (.iload 4, 2) := by decide +kernel
theorem dL_changes_41 : decode cL_changes 41 = .ok (.iconst 2, 1) := by decide +kernel
theorem dL_changes_42 : decode cL_changes 42 = .ok (.if_icmp .ge 386, 3) := by decide +kernel
theorem dL_changes_45 : decode cL_changes 45 = .ok (.iload_n 3, 1) := by decide +kernel
theorem dL_changes_46 : decode cL_changes 46 = .ok (.ifCond .eq 16, 3) := by decide +kernel
theorem dL_changes_49 : decode cL_changes 49 = .ok (.iload_n 2, 1) := by decide +kernel
theorem dL_changes_50 : decode cL_changes 50 = .ok (.iconst 3, 1) := by decide +kernel
theorem dL_changes_51 : decode cL_changes 51 = .ok (.ishr, 1) := by decide +kernel
theorem dL_changes_52 : decode cL_changes 52 = .ok (.bipush 6, 2) := by decide +kernel
theorem dL_changes_54 : decode cL_changes 54 = .ok (.invokestatic 119, 3) := by decide +kernel
theorem dL_changes_57 : decode cL_changes 57 = .ok (.iconst 1, 1) := by decide +kernel
theorem dL_changes_58 : decode cL_changes 58 = .ok (.isub, 1) := by decide +kernel
