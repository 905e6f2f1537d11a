theorem dX8_isEvent_6 : decode cX8_isEvent 6 = .ok (.getfield 149, 3) := by decide +kernel
theorem dX8_isEvent_9 : decode cX8_isEvent 9 = .ok (.if_icmp .ge 32, 3) := by decide +kernel
theorem dX8_isEvent_12 : decode cX8_isEvent 12 = .ok (.iload_n 1, 1) := by decide +kernel
theorem dX8_isEvent_13 : decode cX8_isEvent 13 = .ok (.ifCond .ne 16, 3) := by decide +kernel
theorem dX8_isEvent_16 : decode cX8_isEvent 16 = .ok (.aload_n 0, 1) := by decide +kernel
theorem dX8_isEvent_17 : decode cX8_isEvent 17 = .ok (.getfield 51, 3) := by decide +kernel
theorem dX8_isEvent_20 : decode cX8_isEvent 20 = .ok (.iload_n 2, 1) := by decide +kernel
theorem dX8_isEvent_21 : decode cX8_isEvent 21 = .ok (.iaload, 1) := by decide +kernel
theorem dX8_isEvent_22 : decode cX8_isEvent 22 = .ok (.aload_n 0, 1) := by decide +kernel
theorem dX8_isEvent_23 : decode cX8_isEvent 23 = .ok (.getfield 97, 3) := by decide +kernel
theorem dX8_isEvent_26 : decode cX8_isEvent 26 = .ok (.if_icmp .ne 7, 3) := by decide +kernel
theorem dX8_isEvent_29 : decode cX8_isEvent 29 = .ok (.iconst 1, 1) := by decide +kernel
theorem dX8_isEvent_30 : decode cX8_isEvent 30 = .ok (.goto 4, 3) := by decide +kernel
theorem dX8_isEvent_33 : decode cX8_isEvent 33 = .ok (.iconst 0, 1) := by decide +kernel
theorem dX8_isEvent_34 : decode cX8_isEvent 34 = .ok (.istore_n 1, 1) := by decide +kernel
theorem dX8_isEvent_35 : decode cX8_isEvent 35 = .ok (.iinc 2 1, 3) := by decide +kernel
theorem dX8_isEvent_38 : decode cX8_isEvent 38 = .ok (.goto (-34), 3) := by decide +kernel
theorem dX8_isEvent_41 : decode cX8_isEvent 41 = .ok (.iload_n 1, 1) := by decide +kernel
theorem dX8_isEvent_42 : decode cX8_isEvent 42 = .ok (.ireturn, 1) := by decide +kernel
theorem dX8_mayWake_0 : decode cX8_mayWake 0 = .ok (.aload_n 0, 1) := by decide +kernel
theorem dX8_mayWake_1 : decode cX8_mayWake 1 = .ok (.getfield 103, 3) := by decide +kernel
theorem dX8_mayWake_4 : decode cX8_mayWake 4 = .ok (.ifCond .ne 4, 3) := by decide +kernel
theorem dX8_mayWake_7 : decode cX8_mayWake 7 = .ok (.return_, 1) := by decide +kernel
theorem dX8_mayWake_8 : decode cX8_mayWake 8 = .ok (.aload_n 0, 1) := by decide +kernel
theorem dX8_mayWake_9 : decode cX8_mayWake 9 = .ok (.invokevirtual 153, 3) := by decide +kernel
theorem dX8_mayWake_12 : decode cX8_mayWake 12 = .ok (.aload_n 0, 1) := by decide +kernel
theorem dX8_mayWake_13 : decode cX8_mayWake 13 = .ok (.getfield 97, 3) := by decide +kernel
theorem dX8_mayWake_16 : decode cX8_mayWake 16 = .ok (.if_icmp .ne 10, 3) := by decide +kernel
theorem dX8_mayWake_19 : decode cX8_mayWake 19 = .ok (.aload_n 0, 1) := by decide +kernel
theorem dX8_mayWake_20 : decode cX8_mayWake 20 = .ok (.invokevirtual 110, 3) := by decide +kernel
theorem dX8_mayWake_23 : decode cX8_mayWake 23 = .ok (.goto 53, 3) := by decide +kernel
theorem dX8_mayWake_26 : decode cX8_mayWake 26 = .ok (.aload_n 0, 1) := by decide +kernel
theorem dX8_mayWake_27 : decode cX8_mayWake 27 = .ok (.invokevirtual 156, 3) := by decide +kernel
theorem dX8_mayWake_30 : decode cX8_mayWake 30 = .ok (.ifCond .eq 46, 3) := by decide +kernel
theorem dX8_mayWake_33 : decode cX8_mayWake 33 = .ok (.aload_n 0, 1) := by decide +kernel
theorem dX8_mayWake_34 : decode cX8_mayWake 34 = .ok (.aload_n 0, 1) := by decide +kernel
theorem dX8_mayWake_35 : decode cX8_mayWake 35 = .ok (.getfield 7, 3) := by decide +kernel
theorem dX8_mayWake_38 : decode cX8_mayWake 38 = .ok (.iconst 0, 1) := by decide +kernel
theorem dX8_mayWake_39 : decode cX8_mayWake 39 = .ok (.iaload, 1) := by decide +kernel
theorem dX8_mayWake_40 : decode cX8_mayWake 40 = .ok (.aload_n 0, 1) := by decide +kernel
theorem dX8_mayWake_41 : decode cX8_mayWake 41 = .ok (.getfield 16, 3) := by decide +kernel
theorem dX8_mayWake_44 : decode cX8_mayWake 44 = .ok (.aload_n 0, 1) := by decide +kernel
theorem dX8_mayWake_45 : decode cX8_mayWake 45 = .ok (.getfield 103, 3) := by decide +kernel
theorem dX8_mayWake_48 : decode cX8_mayWake 48 = .ok (.iaload, 1) := by decide +kernel
theorem dX8_mayWake_49 : decode cX8_mayWake 49 = .ok (.imul, 1) := by decide +kernel
theorem dX8_mayWake_50 : decode cX8_mayWake 50 = .ok (.i2l, 1) := by decide +kernel
theorem dX8_mayWake_51 : decode cX8_mayWake 51 = .ok (.invokevirtual 106, 3) := by decide +kernel
theorem dX8_mayWake_54 : decode cX8_mayWake 54 = .ok (.aload_n 0, 1) := by decide +kernel
theorem dX8_mayWake_55 : decode cX8_mayWake 55 = .ok (.dup, 1) := by decide +kernel
theorem dX8_mayWake_56 : decode cX8_mayWake 56 = .ok (.getfield 160, 3) := by decide +kernel
theorem dX8_mayWake_59 : decode cX8_mayWake 59 = .ok (.aload_n 0, 1) := by decide +kernel
theorem dX8_mayWake_60 : decode cX8_mayWake 60 = .ok (.getfield 16, 3) := by decide +kernel
theorem dX8_mayWake_63 : decode cX8_mayWake 63 = .ok (.aload_n 0, 1) := by decide +kernel
theorem dX8_mayWake_64 : decode cX8_mayWake 64 = .ok (.getfield 103, 3) := by decide +kernel
theorem dX8_mayWake_67 : decode cX8_mayWake 67 = .ok (.iaload, 1) := by decide +kernel
theorem dX8_mayWake_68 : decode cX8_mayWake 68 = .ok (.iadd, 1) := by decide +kernel
theorem dX8_mayWake_69 : decode cX8_mayWake 69 = .ok (.putfield 160, 3) := by decide +kernel
theorem dX8_mayWake_72 : decode cX8_mayWake 72 = .ok (.aload_n 0, 1) := by decide +kernel
theorem dX8_mayWake_73 : decode cX8_mayWake 73 = .ok (.invokevirtual 110, 3) := by decide +kernel
theorem dX8_mayWake_76 : decode cX8_mayWake 76 = .ok (.return_, 1) := by decide +kernel
theorem dX8_serves_0 : decode cX8_serves 0 = .ok (.aload_n 0, 1) := by decide +kernel
theorem dX8_serves_1 : decode cX8_serves 1 = .ok (.dup, 1) := by decide +kernel
theorem dX8_serves_2 : decode cX8_serves 2 = .ok (.getfield 163, 3) := by decide +kernel
theorem dX8_serves_5 : decode cX8_serves 5 = .ok (.iload_n 1, 1) := by decide +kernel
theorem dX8_serves_6 : decode cX8_serves 6 = .ok (.iadd, 1) := by decide +kernel
theorem dX8_serves_7 : decode cX8_serves 7 = .ok (.putfield 163, 3) := by decide +kernel
theorem dX8_serves_10 : decode cX8_serves 10 = .ok (.aload_n 0, 1) := by decide +kernel
theorem dX8_serves_11 : decode cX8_serves 11 = .ok (.iload_n 1, 1) := by decide +kernel
theorem dX8_serves_12 : decode cX8_serves 12 = .ok (.aload_n 0, 1) := by decide +kernel
theorem dX8_serves_13 : decode cX8_serves 13 = .ok (.getfield 7, 3) := by decide +kernel
theorem dX8_serves_16 : decode cX8_serves 16 = .ok (.iconst 0, 1) := by decide +kernel
theorem dX8_serves_17 : decode cX8_serves 17 = .ok (.iaload, 1) := by decide +kernel
theorem dX8_serves_18 : decode cX8_serves 18 = .ok (.imul, 1) := by decide +kernel
theorem dX8_serves_19 : decode cX8_serves 19 = .ok (.i2l, 1) := by decide +kernel
theorem dX8_serves_20 : decode cX8_serves 20 = .ok (.invokevirtual 106, 3) := by decide +kernel
theorem dX8_serves_23 : decode cX8_serves 23 = .ok (.return_, 1) := by decide +kernel
theorem dX8_servesAll_0 : decode cX8_servesAll 0 = .ok (.iconst 0, 1) := by decide +kernel
theorem dX8_servesAll_1 : decode cX8_servesAll 1 = .ok (.istore_n 1, 1) := by decide +kernel
theorem dX8_servesAll_2 : decode cX8_servesAll 2 = .ok (.iconst 0, 1) := by decide +kernel
theorem dX8_servesAll_3 : decode cX8_servesAll 3 = .ok (.istore_n 2, 1) := by decide +kernel
theorem dX8_servesAll_4 : decode cX8_servesAll 4 = .ok (.iload_n 2, 1) := by decide +kernel
theorem dX8_servesAll_5 : decode cX8_servesAll 5 = .ok (.aload_n 0, 1) := by decide +kernel
theorem dX8_servesAll_6 : decode cX8_servesAll 6 = .ok (.getfield 149, 3) := by decide +kernel
theorem dX8_servesAll_9 : decode cX8_servesAll 9 = .ok (.if_icmp .ge 62, 3) := by decide +kernel
theorem dX8_servesAll_12 : decode cX8_servesAll 12 = .ok (.aload_n 0, 1) := by decide +kernel
theorem dX8_servesAll_13 : decode cX8_servesAll 13 = .ok (.getfield 51, 3) := by decide +kernel
theorem dX8_servesAll_16 : decode cX8_servesAll 16 = .ok (.iload_n 2, 1) := by decide +kernel
theorem dX8_servesAll_17 : decode cX8_servesAll 17 = .ok (.iaload, 1) := by decide +kernel
theorem dX8_servesAll_18 : decode cX8_servesAll 18 = .ok (.aload_n 0, 1) := by decide +kernel
theorem dX8_servesAll_19 : decode cX8_servesAll 19 = .ok (.getfield 97, 3) := by decide +kernel
theorem dX8_servesAll_22 : decode cX8_servesAll 22 = .ok (.if_icmp .ne 16, 3) := by decide +kernel
theorem dX8_servesAll_25 : decode cX8_servesAll 25 = .ok (.aload_n 0, 1) := by decide +kernel
theorem dX8_servesAll_26 : decode cX8_servesAll 26 = .ok (.aload_n 0, 1) := by decide +kernel
theorem dX8_servesAll_27 : decode cX8_servesAll 27 = .ok (.getfield 54, 3) := by decide +kernel
theorem dX8_servesAll_30 : decode cX8_servesAll 30 = .ok (.iload_n 2, 1) := by decide +kernel
theorem dX8_servesAll_31 : decode cX8_servesAll 31 = .ok (.iaload, 1) := by decide +kernel
theorem dX8_servesAll_32 : decode cX8_servesAll 32 = .ok (.invokevirtual 166, 3) := by decide +kernel
theorem dX8_servesAll_35 : decode cX8_servesAll 35 = .ok (.goto 30, 3) := by decide +kernel
theorem dX8_servesAll_38 : decode cX8_servesAll 38 = .ok (.aload_n 0, 1) := by decide +kernel
theorem dX8_servesAll_39 : decode cX8_servesAll 39 = .ok (.getfield 51, 3) := by decide +kernel
theorem dX8_servesAll_42 : decode cX8_servesAll 42 = .ok (.iload_n 1, 1) := by decide +kernel
theorem dX8_servesAll_43 : decode cX8_servesAll 43 = .ok (.aload_n 0, 1) := by decide +kernel
theorem dX8_servesAll_44 : decode cX8_servesAll 44 = .ok (.getfield 51, 3) := by decide +kernel
theorem dX8_servesAll_47 : decode cX8_servesAll 47 = .ok (.iload_n 2, 1) := by decide +kernel
theorem dX8_servesAll_48 : decode cX8_servesAll 48 = .ok (.iaload, 1) := by decide +kernel
theorem dX8_servesAll_49 : decode cX8_servesAll 49 = .ok (.iastore, 1) := by decide +kernel
theorem dX8_servesAll_50 : decode cX8_servesAll 50 = .ok (.aload_n 0, 1) := by decide +kernel
theorem dX8_servesAll_51 : decode cX8_servesAll 51 = .ok (.getfield 54, 3) := by decide +kernel
theorem dX8_servesAll_54 : decode cX8_servesAll 54 = .ok (.iload_n 1, 1) := by decide +kernel
theorem dX8_servesAll_55 : decode cX8_servesAll 55 = .ok (.aload_n 0, 1) := by decide +kernel
theorem dX8_servesAll_56 : decode cX8_servesAll 56 = .ok (.getfield 54, 3) := by decide +kernel
theorem dX8_servesAll_59 : decode cX8_servesAll 59 = .ok (.iload_n 2, 1) := by decide +kernel
theorem dX8_servesAll_60 : decode cX8_servesAll 60 = .ok (.iaload, 1) := by decide +kernel
theorem dX8_servesAll_61 : decode cX8_servesAll 61 = .ok (.iastore, 1) := by decide +kernel
theorem dX8_servesAll_62 : decode cX8_servesAll 62 = .ok (.iinc 1 1, 3) := by decide +kernel
theorem dX8_servesAll_65 : decode cX8_servesAll 65 = .ok (.iinc 2 1, 3) := by decide +kernel
theorem dX8_servesAll_68 : decode cX8_servesAll 68 = .ok (.goto (-64), 3) := by decide +kernel
theorem dX8_servesAll_71 : decode cX8_servesAll 71 = .ok (.aload_n 0, 1) := by decide +kernel
theorem dX8_servesAll_72 : decode cX8_servesAll 72 = .ok (.iload_n 1, 1) := by decide +kernel
theorem dX8_servesAll_73 : decode cX8_servesAll 73 = .ok (.putfield 149, 3) := by decide +kernel
theorem dX8_servesAll_76 : decode cX8_servesAll 76 = .ok (.iconst 0, 1) := by decide +kernel
theorem dX8_servesAll_77 : decode cX8_servesAll 77 = .ok (.istore_n 1, 1) := by decide +kernel
theorem dX8_servesAll_78 : decode cX8_servesAll 78 = .ok (.iconst 0, 1) := by decide +kernel
theorem dX8_servesAll_79 : decode cX8_servesAll 79 = .ok (.istore_n 2, 1) := by decide +kernel
theorem dX8_servesAll_80 : decode cX8_servesAll 80 = .ok (.iload_n 2, 1) := by decide +kernel
theorem dX8_servesAll_81 : decode cX8_servesAll 81 = .ok (.aload_n 0, 1) := by decide +kernel
theorem dX8_servesAll_82 : decode cX8_servesAll 82 = .ok (.getfield 146, 3) := by decide +kernel
theorem dX8_servesAll_85 : decode cX8_servesAll 85 = .ok (.if_icmp .ge 74, 3) := by decide +kernel
theorem dX8_servesAll_88 : decode cX8_servesAll 88 = .ok (.aload_n 0, 1) := by decide +kernel
theorem dX8_servesAll_89 : decode cX8_servesAll 89 = .ok (.getfield 42, 3) := by decide +kernel
theorem dX8_servesAll_92 : decode cX8_servesAll 92 = .ok (.iload_n 2, 1) := by decide +kernel
theorem dX8_servesAll_93 : decode cX8_servesAll 93 = .ok (.iaload, 1) := by decide +kernel
theorem dX8_servesAll_94 : decode cX8_servesAll 94 = .ok (.aload_n 0, 1) := by decide +kernel
theorem dX8_servesAll_95 : decode cX8_servesAll 95 = .ok (.getfield 97, 3) := by decide +kernel
theorem dX8_servesAll_98 : decode cX8_servesAll 98 = .ok (.if_icmp .gt 16, 3) := by decide +kernel
theorem dX8_servesAll_101 : decode cX8_servesAll 101 = .ok (.aload_n 0, 1) := by decide +kernel
theorem dX8_servesAll_102 : decode cX8_servesAll 102 = .ok (.aload_n 0, 1) := by decide +kernel
theorem dX8_servesAll_103 : decode cX8_servesAll 103 = .ok (.getfield 48, 3) := by decide +kernel
theorem dX8_servesAll_106 : decode cX8_servesAll 106 = .ok (.iload_n 2, 1) := by decide +kernel
theorem dX8_servesAll_107 : decode cX8_servesAll 107 = .ok (.iaload, 1) := by decide +kernel
theorem dX8_servesAll_108 : decode cX8_servesAll 108 = .ok (.invokevirtual 166, 3) := by decide +kernel
theorem dX8_servesAll_111 : decode cX8_servesAll 111 = .ok (.goto 42, 3) := by decide +kernel
theorem dX8_servesAll_114 : decode cX8_servesAll 114 = .ok (.aload_n 0, 1) := by decide +kernel
theorem dX8_servesAll_115 : decode cX8_servesAll 115 = .ok (.getfield 42, 3) := by decide +kernel
theorem dX8_servesAll_118 : decode cX8_servesAll 118 = .ok (.iload_n 1, 1) := by decide +kernel
theorem dX8_servesAll_119 : decode cX8_servesAll 119 = .ok (.aload_n 0, 1) := by decide +kernel
theorem dX8_servesAll_120 : decode cX8_servesAll 120 = .ok (.getfield 42, 3) := by decide +kernel
theorem dX8_servesAll_123 : decode cX8_servesAll 123 = .ok (.iload_n 2, 1) := by decide +kernel
theorem dX8_servesAll_124 : decode cX8_servesAll 124 = .ok (.iaload, 1) := by decide +kernel
theorem dX8_servesAll_125 : decode cX8_servesAll 125 = .ok (.iastore, 1) := by decide +kernel
theorem dX8_servesAll_126 : decode cX8_servesAll 126 = .ok (.aload_n 0, 1) := by decide +kernel
theorem dX8_servesAll_127 : decode cX8_servesAll 127 = .ok (.getfield 45, 3) := by decide +kernel
theorem dX8_servesAll_130 : decode cX8_servesAll 130 = .ok (.iload_n 1, 1) := by decide +kernel
theorem dX8_servesAll_131 : decode cX8_servesAll 131 = .ok (.aload_n 0, 1) := by decide +kernel
theorem dX8_servesAll_132 : decode cX8_servesAll 132 = .ok (.getfield 45, 3) := by decide +kernel
theorem dX8_servesAll_135 : decode cX8_servesAll 135 = .ok (.iload_n 2, 1) := by decide +kernel
theorem dX8_servesAll_136 : decode cX8_servesAll 136 = .ok (.iaload, 1) := by decide +kernel
theorem dX8_servesAll_137 : decode cX8_servesAll 137 = .ok (.iastore, 1) := by decide +kernel
theorem dX8_servesAll_138 : decode cX8_servesAll 138 = .ok (.aload_n 0, 1) := by decide +kernel
theorem dX8_servesAll_139 : decode cX8_servesAll 139 = .ok (.getfield 48, 3) := by decide +kernel
theorem dX8_servesAll_142 : decode cX8_servesAll 142 = .ok (.iload_n 1, 1) := by decide +kernel
theorem dX8_servesAll_143 : decode cX8_servesAll 143 = .ok (.aload_n 0, 1) := by decide +kernel
theorem dX8_servesAll_144 : decode cX8_servesAll 144 = .ok (.getfield 48, 3) := by decide +kernel
theorem dX8_servesAll_147 : decode cX8_servesAll 147 = .ok (.iload_n 2, 1) := by decide +kernel
theorem dX8_servesAll_148 : decode cX8_servesAll 148 = .ok (.iaload, 1) := by decide +kernel
theorem dX8_servesAll_149 : decode cX8_servesAll 149 = .ok (.iastore, 1) := by decide +kernel
theorem dX8_servesAll_150 : decode cX8_servesAll 150 = .ok (.iinc 1 1, 3) := by decide +kernel
theorem dX8_servesAll_153 : decode cX8_servesAll 153 = .ok (.iinc 2 1, 3) := by decide +kernel
theorem dX8_servesAll_156 : decode cX8_servesAll 156 = .ok (.goto (-76), 3) := by decide +kernel
theorem dX8_servesAll_159 : decode cX8_servesAll 159 = .ok (.aload_n 0, 1) := by decide +kernel
theorem dX8_servesAll_160 : decode cX8_servesAll 160 = .ok (.iload_n 1, 1) := by decide +kernel
theorem dX8_servesAll_161 : decode cX8_servesAll 161 = .ok (.putfield 146, 3) := by decide +kernel
theorem dX8_servesAll_164 : decode cX8_servesAll 164 = .ok (.return_, 1) := by decide +kernel
theorem dX8_mean_0 : decode cX8_mean 0 = .ok (.aload_n 0, 1) := by decide +kernel
theorem dX8_mean_1 : decode cX8_mean 1 = .ok (.getfield 94, 3) := by decide +kernel
theorem dX8_mean_4 : decode cX8_mean 4 = .ok (.iconst 4, 1) := by decide +kernel
theorem dX8_mean_5 : decode cX8_mean 5 = .ok (.if_icmp .ge 10, 3) := by decide +kernel
theorem dX8_mean_8 : decode cX8_mean 8 = .ok (.aload_n 0, 1) := by decide +kernel
theorem dX8_mean_9 : decode cX8_mean 9 = .ok (.getfield 94, 3) := by decide +kernel
theorem dX8_mean_12 : decode cX8_mean 12 = .ok (.goto 4, 3) := by decide +kernel
theorem dX8_mean_15 : decode cX8_mean 15 = .ok (.iconst 4, 1) := by decide +kernel
theorem dX8_mean_16 : decode cX8_mean 16 = .ok (.istore_n 1, 1) := by decide +kernel
theorem dX8_mean_17 : decode cX8_mean 17 = .ok (.iconst 0, 1) := by decide +kernel
theorem dX8_mean_18 : decode cX8_mean 18 = .ok (.istore_n 2, 1) := by decide +kernel
theorem dX8_mean_19 : decode cX8_mean 19 = .ok (.iconst 0, 1) := by decide +kernel
theorem dX8_mean_20 : decode cX8_mean 20 = .ok (.istore_n 3, 1) := by decide +kernel
theorem dX8_mean_21 : decode cX8_mean 21 = .ok (.iload_n 3, 1) := by decide +kernel
theorem dX8_mean_22 : decode cX8_mean 22 = .ok (.iload_n 1, 1) := by decide +kernel
theorem dX8_mean_23 : decode cX8_mean 23 = .ok (.if_icmp .ge 18, 3) := by decide +kernel
theorem dX8_mean_26 : decode cX8_mean 26 = .ok (.iload_n 2, 1) := by decide +kernel
theorem dX8_mean_27 : decode cX8_mean 27 = .ok (.aload_n 0, 1) := by decide +kernel
theorem dX8_mean_28 : decode cX8_mean 28 = .ok (.getfield 60, 3) := by decide +kernel
theorem dX8_mean_31 : decode cX8_mean 31 = .ok (.iload_n 3, 1) := by decide +kernel
theorem dX8_mean_32 : decode cX8_mean 32 = .ok (.iaload, 1) := by decide +kernel
theorem dX8_mean_33 : decode cX8_mean 33 = .ok (.iadd, 1) := by decide +kernel
theorem dX8_mean_34 : decode cX8_mean 34 = .ok (.istore_n 2, 1) := by decide +kernel
theorem dX8_mean_35 : decode cX8_mean 35 = .ok (.iinc 3 1, 3) := by decide +kernel
theorem dX8_mean_38 : decode cX8_mean 38 = .ok (.goto (-17), 3) := by decide +kernel
theorem dX8_mean_41 : decode cX8_mean 41 = .ok (.iload_n 1, 1) := by decide +kernel
theorem dX8_mean_42 : decode cX8_mean 42 = .ok (.ifCond .ne 8, 3) := by decide +kernel
theorem dX8_mean_45 : decode cX8_mean 45 = .ok (.ldc 152, 2) := by decide +kernel
theorem dX8_mean_47 : decode cX8_mean 47 = .ok (.goto 6, 3) := by decide +kernel
theorem dX8_mean_50 : decode cX8_mean 50 = .ok (.iload_n 2, 1) := by decide +kernel
theorem dX8_mean_51 : decode cX8_mean 51 = .ok (.iload_n 1, 1) := by decide +kernel
theorem dX8_mean_52 : decode cX8_mean 52 = .ok (.idiv, 1) := by decide +kernel
theorem dX8_mean_53 : decode cX8_mean 53 = .ok (.ireturn, 1) := by decide +kernel
theorem dX8_chooses_0 : decode cX8_chooses 0 = .ok (.aload_n 0, 1) := by decide +kernel
theorem dX8_chooses_1 : decode cX8_chooses 1 = .ok (.invokevirtual 135, 3) := by decide +kernel
theorem dX8_chooses_4 : decode cX8_chooses 4 = .ok (.istore_n 3, 1) := by decide +kernel
theorem dX8_chooses_5 : decode cX8_chooses 5 = .ok (.iconst 0, 1) := by decide +kernel
theorem dX8_chooses_6 : decode cX8_chooses 6 = .ok (.istore 4, 2) := by decide +kernel
theorem dX8_chooses_8 : decode cX8_chooses 8 = .ok (.iload_n 3, 1) := by decide +kernel
theorem dX8_chooses_9 : decode cX8_chooses 9 = .ok (.ifCond .le 86, 3) := by decide +kernel
theorem dX8_chooses_12 : decode cX8_chooses 12 = .ok (.iload 4, 2) := by decide +kernel
theorem dX8_chooses_14 : decode cX8_chooses 14 = .ok (.ifCond .ne 81, 3) := by decide +kernel
theorem dX8_chooses_17 : decode cX8_chooses 17 = .ok (.aload_n 0, 1) := by decide +kernel
theorem dX8_chooses_18 : decode cX8_chooses 18 = .ok (.iload_n 3, 1) := by decide +kernel
theorem dX8_chooses_19 : decode cX8_chooses 19 = .ok (.invokevirtual 143, 3) := by decide +kernel
theorem dX8_chooses_22 : decode cX8_chooses 22 = .ok (.istore 5, 2) := by decide +kernel
theorem dX8_chooses_24 : decode cX8_chooses 24 = .ok (.iload_n 1, 1) := by decide +kernel
theorem dX8_chooses_25 : decode cX8_chooses 25 = .ok (.ifCond .ne 21, 3) := by decide +kernel
theorem dX8_chooses_28 : decode cX8_chooses 28 = .ok (.aload_n 0, 1) := by decide +kernel
theorem dX8_chooses_29 : decode cX8_chooses 29 = .ok (.getfield 16, 3) := by decide +kernel
theorem dX8_chooses_32 : decode cX8_chooses 32 = .ok (.iload_n 3, 1) := by decide +kernel
theorem dX8_chooses_33 : decode cX8_chooses 33 = .ok (.iaload, 1) := by decide +kernel
theorem dX8_chooses_34 : decode cX8_chooses 34 = .ok (.iload_n 2, 1) := by decide +kernel
theorem dX8_chooses_35 : decode cX8_chooses 35 = .ok (.if_icmp .gt 7, 3) := by decide +kernel
theorem dX8_chooses_38 : decode cX8_chooses 38 = .ok (.iconst 1, 1) := by decide +kernel
theorem dX8_chooses_39 : decode cX8_chooses 39 = .ok (.goto 38, 3) := by decide +kernel
theorem dX8_chooses_42 : decode cX8_chooses 42 = .ok (.iconst 0, 1) := by decide +kernel
theorem dX8_chooses_43 : decode cX8_chooses 43 = .ok (.goto 34, 3) := by decide +kernel
theorem dX8_chooses_46 : decode cX8_chooses 46 = .ok (.iload 5, 2) := by decide +kernel
theorem dX8_chooses_48 : decode cX8_chooses 48 = .ok (.iconst (-1), 1) := by decide +kernel
theorem dX8_chooses_49 : decode cX8_chooses 49 = .ok (.if_icmp .eq 27, 3) := by decide +kernel
theorem dX8_chooses_52 : decode cX8_chooses 52 = .ok (.iload 5, 2) := by decide +kernel
theorem dX8_chooses_54 : decode cX8_chooses 54 = .ok (.iload_n 2, 1) := by decide +kernel
theorem dX8_chooses_55 : decode cX8_chooses 55 = .ok (.if_icmp .gt 21, 3) := by decide +kernel
theorem dX8_chooses_58 : decode cX8_chooses 58 = .ok (.iload_n 1, 1) := by decide +kernel
theorem dX8_chooses_59 : decode cX8_chooses 59 = .ok (.iconst 1, 1) := by decide +kernel
theorem dX8_chooses_60 : decode cX8_chooses 60 = .ok (.if_icmp .eq 12, 3) := by decide +kernel
theorem dX8_chooses_63 : decode cX8_chooses 63 = .ok (.iload 5, 2) := by decide +kernel
theorem dX8_chooses_65 : decode cX8_chooses 65 = .ok (.aload_n 0, 1) := by decide +kernel
theorem dX8_chooses_66 : decode cX8_chooses 66 = .ok (.invokevirtual 170, 3) := by decide +kernel
theorem dX8_chooses_69 : decode cX8_chooses 69 = .ok (.if_icmp .gt 7, 3) := by decide +kernel
theorem dX8_chooses_72 : decode cX8_chooses 72 = .ok (.iconst 1, 1) := by decide +kernel
theorem dX8_chooses_73 : decode cX8_chooses 73 = .ok (.goto 4, 3) := by decide +kernel
theorem dX8_chooses_76 : decode cX8_chooses 76 = .ok (.iconst 0, 1) := by decide +kernel
theorem dX8_chooses_77 : decode cX8_chooses 77 = .ok (.istore 4, 2) := by decide +kernel
theorem dX8_chooses_79 : decode cX8_chooses 79 = .ok (.iload_n 3, 1) := by decide +kernel
theorem dX8_chooses_80 : decode cX8_chooses 80 = .ok (.iload 4, 2) := by decide +kernel
theorem dX8_chooses_82 : decode cX8_chooses 82 = .ok (.ifCond .eq 7, 3) := by decide +kernel
theorem dX8_chooses_85 : decode cX8_chooses 85 = .ok (.iconst 0, 1) := by decide +kernel
theorem dX8_chooses_86 : decode cX8_chooses 86 = .ok (.goto 4, 3) := by decide +kernel
theorem dX8_chooses_89 : decode cX8_chooses 89 = .ok (.iconst 1, 1) := by decide +kernel
theorem dX8_chooses_90 : decode cX8_chooses 90 = .ok (.isub, 1) := by decide +kernel
theorem dX8_chooses_91 : decode cX8_chooses 91 = .ok (.istore_n 3, 1) := by decide +kernel
theorem dX8_chooses_92 : decode cX8_chooses 92 = .ok (.goto (-84), 3) := by decide +kernel
theorem dX8_chooses_95 : decode cX8_chooses 95 = .ok (.iload_n 3, 1) := by decide +kernel
theorem dX8_chooses_96 : decode cX8_chooses 96 = .ok (.ireturn, 1) := by decide +kernel
theorem dX8_governs_0 : decode cX8_governs 0 = .ok (.aload_n 0, 1) := by decide +kernel
theorem dX8_governs_1 : decode cX8_governs 1 = .ok (.aload_n 0, 1) := by decide +kernel
theorem dX8_governs_2 : decode cX8_governs 2 = .ok (.getfield 57, 3) := by decide +kernel
theorem dX8_governs_5 : decode cX8_governs 5 = .ok (.aload_n 0, 1) := by decide +kernel
theorem dX8_governs_6 : decode cX8_governs 6 = .ok (.invokevirtual 153, 3) := by decide +kernel
theorem dX8_governs_9 : decode cX8_governs 9 = .ok (.aload_n 0, 1) := by decide +kernel
theorem dX8_governs_10 : decode cX8_governs 10 = .ok (.getfield 97, 3) := by decide +kernel
theorem dX8_governs_13 : decode cX8_governs 13 = .ok (.isub, 1) := by decide +kernel
theorem dX8_governs_14 : decode cX8_governs 14 = .ok (.invokevirtual 173, 3) := by decide +kernel
theorem dX8_governs_17 : decode cX8_governs 17 = .ok (.istore_n 1, 1) := by decide +kernel
theorem dX8_governs_18 : decode cX8_governs 18 = .ok (.iload_n 1, 1) := by decide +kernel
theorem dX8_governs_19 : decode cX8_governs 19 = .ok (.ifCond .le 37, 3) := by decide +kernel
theorem dX8_governs_22 : decode cX8_governs 22 = .ok (.aload_n 0, 1) := by decide +kernel
theorem dX8_governs_23 : decode cX8_governs 23 = .ok (.aload_n 0, 1) := by decide +kernel
theorem dX8_governs_24 : decode cX8_governs 24 = .ok (.getfield 13, 3) := by decide +kernel
theorem dX8_governs_27 : decode cX8_governs 27 = .ok (.iload_n 1, 1) := by decide +kernel
theorem dX8_governs_28 : decode cX8_governs 28 = .ok (.iaload, 1) := by decide +kernel
theorem dX8_governs_29 : decode cX8_governs 29 = .ok (.i2l, 1) := by decide +kernel
theorem dX8_governs_30 : decode cX8_governs 30 = .ok (.invokevirtual 106, 3) := by decide +kernel
theorem dX8_governs_33 : decode cX8_governs 33 = .ok (.aload_n 0, 1) := by decide +kernel
theorem dX8_governs_34 : decode cX8_governs 34 = .ok (.iload_n 1, 1) := by decide +kernel
theorem dX8_governs_35 : decode cX8_governs 35 = .ok (.putfield 103, 3) := by decide +kernel
theorem dX8_governs_38 : decode cX8_governs 38 = .ok (.aload_n 0, 1) := by decide +kernel
theorem dX8_governs_39 : decode cX8_governs 39 = .ok (.aload_n 0, 1) := by decide +kernel
theorem dX8_governs_40 : decode cX8_governs 40 = .ok (.getfield 97, 3) := by decide +kernel
theorem dX8_governs_43 : decode cX8_governs 43 = .ok (.putfield 100, 3) := by decide +kernel
theorem dX8_governs_46 : decode cX8_governs 46 = .ok (.aload_n 0, 1) := by decide +kernel
theorem dX8_governs_47 : decode cX8_governs 47 = .ok (.dup, 1) := by decide +kernel
theorem dX8_governs_48 : decode cX8_governs 48 = .ok (.getfield 177, 3) := by decide +kernel
theorem dX8_governs_51 : decode cX8_governs 51 = .ok (.iconst 1, 1) := by decide +kernel
theorem dX8_governs_52 : decode cX8_governs 52 = .ok (.iadd, 1) := by decide +kernel
theorem dX8_governs_53 : decode cX8_governs 53 = .ok (.putfield 177, 3) := by decide +kernel
theorem dX8_governs_56 : decode cX8_governs 56 = .ok (.return_, 1) := by decide +kernel
theorem dX8_down_0 : decode cX8_down 0 = .ok (.iload_n 0, 1) := by decide +kernel
theorem dX8_down_1 : decode cX8_down 1 = .ok (.ifCond .lt 9, 3) := by decide +kernel
theorem dX8_down_4 : decode cX8_down 4 = .ok (.iload_n 0, 1) := by decide +kernel
theorem dX8_down_5 : decode cX8_down 5 = .ok (.iload_n 1, 1) := by decide +kernel
theorem dX8_down_6 : decode cX8_down 6 = .ok (.idiv, 1) := by decide +kernel
theorem dX8_down_7 : decode cX8_down 7 = .ok (.goto 11, 3) := by decide +kernel
theorem dX8_down_10 : decode cX8_down 10 = .ok (.iload_n 1, 1) := by decide +kernel
theorem dX8_down_11 : decode cX8_down 11 = .ok (.iconst 1, 1) := by decide +kernel
theorem dX8_down_12 : decode cX8_down 12 = .ok (.isub, 1) := by decide +kernel
theorem dX8_down_13 : decode cX8_down 13 = .ok (.iload_n 0, 1) := by decide +kernel
theorem dX8_down_14 : decode cX8_down 14 = .ok (.isub, 1) := by decide +kernel
theorem dX8_down_15 : decode cX8_down 15 = .ok (.iload_n 1, 1) := by decide +kernel
theorem dX8_down_16 : decode cX8_down 16 = .ok (.idiv, 1) := by decide +kernel
theorem dX8_down_17 : decode cX8_down 17 = .ok (.ineg, 1) := by decide +kernel
theorem dX8_down_18 : decode cX8_down 18 = .ok (.ireturn, 1) := by decide +kernel
theorem dX8_battery_0 : decode cX8_battery 0 = .ok (.aload_n 0, 1) := by decide +kernel
theorem dX8_battery_1 : decode cX8_battery 1 = .ok (.getfield 70, 3) := by decide +kernel
theorem dX8_battery_4 : decode cX8_battery 4 = .ok (.aload_n 0, 1) := by decide +kernel
theorem dX8_battery_5 : decode cX8_battery 5 = .ok (.getfield 66, 3) := by decide +kernel
theorem dX8_battery_8 : decode cX8_battery 8 = .ok (.aload_n 0, 1) := by decide +kernel
theorem dX8_battery_9 : decode cX8_battery 9 = .ok (.getfield 97, 3) := by decide +kernel
theorem dX8_battery_12 : decode cX8_battery 12 = .ok (.bipush 60, 2) := by decide +kernel
theorem dX8_battery_14 : decode cX8_battery 14 = .ok (.idiv, 1) := by decide +kernel
theorem dX8_battery_15 : decode cX8_battery 15 = .ok (.bipush 24, 2) := by decide +kernel
theorem dX8_battery_17 : decode cX8_battery 17 = .ok (.irem, 1) := by decide +kernel
theorem dX8_battery_18 : decode cX8_battery 18 = .ok (.iaload, 1) := by decide +kernel
theorem dX8_battery_19 : decode cX8_battery 19 = .ok (.iadd, 1) := by decide +kernel
theorem dX8_battery_20 : decode cX8_battery 20 = .ok (.i2l, 1) := by decide +kernel
theorem dX8_battery_21 : decode cX8_battery 21 = .ok (.aload_n 0, 1) := by decide +kernel
theorem dX8_battery_22 : decode cX8_battery 22 = .ok (.getfield 91, 3) := by decide +kernel
theorem dX8_battery_25 : decode cX8_battery 25 = .ok (.lsub, 1) := by decide +kernel
theorem dX8_battery_26 : decode cX8_battery 26 = .ok (.lstore_n 1, 1) := by decide +kernel
theorem dX8_battery_27 : decode cX8_battery 27 = .ok (.aload_n 0, 1) := by decide +kernel
theorem dX8_battery_28 : decode cX8_battery 28 = .ok (.lconst 0, 1) := by decide +kernel
theorem dX8_battery_29 : decode cX8_battery 29 = .ok (.putfield 91, 3) := by decide +kernel
theorem dX8_battery_32 : decode cX8_battery 32 = .ok (.aload_n 0, 1) := by decide +kernel
theorem dX8_battery_33 : decode cX8_battery 33 = .ok (.dup, 1) := by decide +kernel
theorem dX8_battery_34 : decode cX8_battery 34 = .ok (.getfield 180, 3) := by decide +kernel
theorem dX8_battery_37 : decode cX8_battery 37 = .ok (.lload_n 1, 1) := by decide +kernel
theorem dX8_battery_38 : decode cX8_battery 38 = .ok (.lconst 0, 1) := by decide +kernel
theorem dX8_battery_39 : decode cX8_battery 39 = .ok (.lcmp, 1) := by decide +kernel
theorem dX8_battery_40 : decode cX8_battery 40 = .ok (.ifCond .ge 7, 3) := by decide +kernel
theorem dX8_battery_43 : decode cX8_battery 43 = .ok (.iconst 1, 1) := by decide +kernel
theorem dX8_battery_44 : decode cX8_battery 44 = .ok (.goto 4, 3) := by decide +kernel
theorem dX8_battery_47 : decode cX8_battery 47 = .ok (.iconst 0, 1) := by decide +kernel
theorem dX8_battery_48 : decode cX8_battery 48 = .ok (.iadd, 1) := by decide +kernel
theorem dX8_battery_49 : decode cX8_battery 49 = .ok (.putfield 180, 3) := by decide +kernel
theorem dX8_battery_52 : decode cX8_battery 52 = .ok (.aload_n 0, 1) := by decide +kernel
theorem dX8_battery_53 : decode cX8_battery 53 = .ok (.lload_n 1, 1) := by decide +kernel
theorem dX8_battery_54 : decode cX8_battery 54 = .ok (.lconst 0, 1) := by decide +kernel
theorem dX8_battery_55 : decode cX8_battery 55 = .ok (.lcmp, 1) := by decide +kernel
theorem dX8_battery_56 : decode cX8_battery 56 = .ok (.ifCond .ge 7, 3) := by decide +kernel
theorem dX8_battery_59 : decode cX8_battery 59 = .ok (.iconst 0, 1) := by decide +kernel
theorem dX8_battery_60 : decode cX8_battery 60 = .ok (.goto 18, 3) := by decide +kernel
theorem dX8_battery_63 : decode cX8_battery 63 = .ok (.lload_n 1, 1) := by decide +kernel
theorem dX8_battery_64 : decode cX8_battery 64 = .ok (.ldc2_w 183, 3) := by decide +kernel
theorem dX8_battery_67 : decode cX8_battery 67 = .ok (.lcmp, 1) := by decide +kernel
theorem dX8_battery_68 : decode cX8_battery 68 = .ok (.ifCond .le 8, 3) := by decide +kernel
theorem dX8_battery_71 : decode cX8_battery 71 = .ok (.ldc 69, 2) := by decide +kernel
theorem dX8_battery_73 : decode cX8_battery 73 = .ok (.goto 5, 3) := by decide +kernel
theorem dX8_battery_76 : decode cX8_battery 76 = .ok (.lload_n 1, 1) := by decide +kernel
theorem dX8_battery_77 : decode cX8_battery 77 = .ok (.l2i, 1) := by decide +kernel
theorem dX8_battery_78 : decode cX8_battery 78 = .ok (.putfield 70, 3) := by decide +kernel
theorem dX8_battery_81 : decode cX8_battery 81 = .ok (.aload_n 0, 1) := by decide +kernel
theorem dX8_battery_82 : decode cX8_battery 82 = .ok (.getfield 74, 3) := by decide +kernel
theorem dX8_battery_85 : decode cX8_battery 85 = .ok (.iconst 2, 1) := by decide +kernel
theorem dX8_battery_86 : decode cX8_battery 86 = .ok (.idiv, 1) := by decide +kernel
theorem dX8_battery_87 : decode cX8_battery 87 = .ok (.aload_n 0, 1) := by decide +kernel
theorem dX8_battery_88 : decode cX8_battery 88 = .ok (.getfield 70, 3) := by decide +kernel
theorem dX8_battery_91 : decode cX8_battery 91 = .ok (.isub, 1) := by decide +kernel
theorem dX8_battery_92 : decode cX8_battery 92 = .ok (.bipush 16, 2) := by decide +kernel
theorem dX8_battery_94 : decode cX8_battery 94 = .ok (.invokestatic 185, 3) := by decide +kernel
theorem dX8_battery_97 : decode cX8_battery 97 = .ok (.istore_n 3, 1) := by decide +kernel
theorem dX8_battery_98 : decode cX8_battery 98 = .ok (.iload_n 3, 1) := by decide +kernel
theorem dX8_battery_99 : decode cX8_battery 99 = .ok (.ifCond .le 46, 3) := by decide +kernel
theorem dX8_battery_102 : decode cX8_battery 102 = .ok (.iload_n 3, 1) := by decide +kernel
theorem dX8_battery_103 : decode cX8_battery 103 = .ok (.aload_n 0, 1) := by decide +kernel
theorem dX8_battery_104 : decode cX8_battery 104 = .ok (.getfield 74, 3) := by decide +kernel
theorem dX8_battery_107 : decode cX8_battery 107 = .ok (.if_icmp .le 10, 3) := by decide +kernel
theorem dX8_battery_110 : decode cX8_battery 110 = .ok (.aload_n 0, 1) := by decide +kernel
theorem dX8_battery_111 : decode cX8_battery 111 = .ok (.getfield 74, 3) := by decide +kernel
theorem dX8_battery_114 : decode cX8_battery 114 = .ok (.goto 4, 3) := by decide +kernel
theorem dX8_battery_117 : decode cX8_battery 117 = .ok (.iload_n 3, 1) := by decide +kernel
theorem dX8_battery_118 : decode cX8_battery 118 = .ok (.istore_n 3, 1) := by decide +kernel
theorem dX8_battery_119 : decode cX8_battery 119 = .ok (.iload_n 3, 1) := by decide +kernel
theorem dX8_battery_120 : decode cX8_battery 120 = .ok (.ldc 69, 2) := by decide +kernel
theorem dX8_battery_122 : decode cX8_battery 122 = .ok (.aload_n 0, 1) := by decide +kernel
theorem dX8_battery_123 : decode cX8_battery 123 = .ok (.getfield 70, 3) := by decide +kernel
theorem dX8_battery_126 : decode cX8_battery 126 = .ok (.isub, 1) := by decide +kernel
theorem dX8_battery_127 : decode cX8_battery 127 = .ok (.if_icmp .le 13, 3) := by decide +kernel
theorem dX8_battery_130 : decode cX8_battery 130 = .ok (.ldc 69, 2) := by decide +kernel
theorem dX8_battery_132 : decode cX8_battery 132 = .ok (.aload_n 0, 1) := by decide +kernel
theorem dX8_battery_133 : decode cX8_battery 133 = .ok (.getfield 70, 3) := by decide +kernel
theorem dX8_battery_136 : decode cX8_battery 136 = .ok (.isub, 1) := by decide +kernel
theorem dX8_battery_137 : decode cX8_battery 137 = .ok (.goto 4, 3) := by decide +kernel
theorem dX8_battery_140 : decode cX8_battery 140 = .ok (.iload_n 3, 1) := by decide +kernel
theorem dX8_battery_141 : decode cX8_battery 141 = .ok (.istore_n 3, 1) := by decide +kernel
theorem dX8_battery_142 : decode cX8_battery 142 = .ok (.goto 46, 3) := by decide +kernel
theorem dX8_battery_145 : decode cX8_battery 145 = .ok (.iload_n 3, 1) := by decide +kernel
theorem dX8_battery_146 : decode cX8_battery 146 = .ok (.ineg, 1) := by decide +kernel
theorem dX8_battery_147 : decode cX8_battery 147 = .ok (.aload_n 0, 1) := by decide +kernel
theorem dX8_battery_148 : decode cX8_battery 148 = .ok (.getfield 70, 3) := by decide +kernel
theorem dX8_battery_151 : decode cX8_battery 151 = .ok (.if_icmp .le 11, 3) := by decide +kernel
theorem dX8_battery_154 : decode cX8_battery 154 = .ok (.aload_n 0, 1) := by decide +kernel
theorem dX8_battery_155 : decode cX8_battery 155 = .ok (.getfield 70, 3) := by decide +kernel
theorem dX8_battery_158 : decode cX8_battery 158 = .ok (.ineg, 1) := by decide +kernel
theorem dX8_battery_159 : decode cX8_battery 159 = .ok (.goto 4, 3) := by decide +kernel
theorem dX8_battery_162 : decode cX8_battery 162 = .ok (.iload_n 3, 1) := by decide +kernel
theorem dX8_battery_163 : decode cX8_battery 163 = .ok (.istore_n 3, 1) := by decide +kernel
theorem dX8_battery_164 : decode cX8_battery 164 = .ok (.iload_n 3, 1) := by decide +kernel
theorem dX8_battery_165 : decode cX8_battery 165 = .ok (.ineg, 1) := by decide +kernel
theorem dX8_battery_166 : decode cX8_battery 166 = .ok (.ldc 73, 2) := by decide +kernel
theorem dX8_battery_168 : decode cX8_battery 168 = .ok (.aload_n 0, 1) := by decide +kernel
theorem dX8_battery_169 : decode cX8_battery 169 = .ok (.getfield 74, 3) := by decide +kernel
theorem dX8_battery_172 : decode cX8_battery 172 = .ok (.isub, 1) := by decide +kernel
theorem dX8_battery_173 : decode cX8_battery 173 = .ok (.if_icmp .le 13, 3) := by decide +kernel
theorem dX8_battery_176 : decode cX8_battery 176 = .ok (.aload_n 0, 1) := by decide +kernel
theorem dX8_battery_177 : decode cX8_battery 177 = .ok (.getfield 74, 3) := by decide +kernel
theorem dX8_battery_180 : decode cX8_battery 180 = .ok (.ldc 73, 2) := by decide +kernel
theorem dX8_battery_182 : decode cX8_battery 182 = .ok (.isub, 1) := by decide +kernel
theorem dX8_battery_183 : decode cX8_battery 183 = .ok (.goto 4, 3) := by decide +kernel
theorem dX8_battery_186 : decode cX8_battery 186 = .ok (.iload_n 3, 1) := by decide +kernel
theorem dX8_battery_187 : decode cX8_battery 187 = .ok (.istore_n 3, 1) := by decide +kernel
theorem dX8_battery_188 : decode cX8_battery 188 = .ok (.aload_n 0, 1) := by decide +kernel
theorem dX8_battery_189 : decode cX8_battery 189 = .ok (.dup, 1) := by decide +kernel
theorem dX8_battery_190 : decode cX8_battery 190 = .ok (.getfield 70, 3) := by decide +kernel
theorem dX8_battery_193 : decode cX8_battery 193 = .ok (.iload_n 3, 1) := by decide +kernel
theorem dX8_battery_194 : decode cX8_battery 194 = .ok (.iadd, 1) := by decide +kernel
theorem dX8_battery_195 : decode cX8_battery 195 = .ok (.putfield 70, 3) := by decide +kernel
theorem dX8_battery_198 : decode cX8_battery 198 = .ok (.aload_n 0, 1) := by decide +kernel
theorem dX8_battery_199 : decode cX8_battery 199 = .ok (.dup, 1) := by decide +kernel
theorem dX8_battery_200 : decode cX8_battery 200 = .ok (.getfield 74, 3) := by decide +kernel
theorem dX8_battery_203 : decode cX8_battery 203 = .ok (.iload_n 3, 1) := by decide +kernel
theorem dX8_battery_204 : decode cX8_battery 204 = .ok (.isub, 1) := by decide +kernel
theorem dX8_battery_205 : decode cX8_battery 205 = .ok (.putfield 74, 3) := by decide +kernel
theorem dX8_battery_208 : decode cX8_battery 208 = .ok (.return_, 1) := by decide +kernel
theorem dX8_playsOne_0 : decode cX8_playsOne 0 = .ok (.aload_n 0, 1) := by decide +kernel
theorem dX8_playsOne_1 : decode cX8_playsOne 1 = .ok (.invokevirtual 188, 3) := by decide +kernel
theorem dX8_playsOne_4 : decode cX8_playsOne 4 = .ok (.aload_n 0, 1) := by decide +kernel
theorem dX8_playsOne_5 : decode cX8_playsOne 5 = .ok (.getfield 103, 3) := by decide +kernel
theorem dX8_playsOne_8 : decode cX8_playsOne 8 = .ok (.ifCond .ne 11, 3) := by decide +kernel
theorem dX8_playsOne_11 : decode cX8_playsOne 11 = .ok (.aload_n 0, 1) := by decide +kernel
theorem dX8_playsOne_12 : decode cX8_playsOne 12 = .ok (.invokevirtual 191, 3) := by decide +kernel
theorem dX8_playsOne_15 : decode cX8_playsOne 15 = .ok (.aload_n 0, 1) := by decide +kernel
theorem dX8_playsOne_16 : decode cX8_playsOne 16 = .ok (.invokevirtual 194, 3) := by decide +kernel
theorem dX8_playsOne_19 : decode cX8_playsOne 19 = .ok (.aload_n 0, 1) := by decide +kernel
theorem dX8_playsOne_20 : decode cX8_playsOne 20 = .ok (.aload_n 0, 1) := by decide +kernel
theorem dX8_playsOne_21 : decode cX8_playsOne 21 = .ok (.getfield 103, 3) := by decide +kernel
theorem dX8_playsOne_24 : decode cX8_playsOne 24 = .ok (.ifCond .le 37, 3) := by decide +kernel
theorem dX8_playsOne_27 : decode cX8_playsOne 27 = .ok (.aload_n 0, 1) := by decide +kernel
theorem dX8_playsOne_28 : decode cX8_playsOne 28 = .ok (.invokevirtual 153, 3) := by decide +kernel
theorem dX8_playsOne_31 : decode cX8_playsOne 31 = .ok (.aload_n 0, 1) := by decide +kernel
theorem dX8_playsOne_32 : decode cX8_playsOne 32 = .ok (.getfield 97, 3) := by decide +kernel
theorem dX8_playsOne_35 : decode cX8_playsOne 35 = .ok (.isub, 1) := by decide +kernel
theorem dX8_playsOne_36 : decode cX8_playsOne 36 = .ok (.aload_n 0, 1) := by decide +kernel
theorem dX8_playsOne_37 : decode cX8_playsOne 37 = .ok (.getfield 16, 3) := by decide +kernel
theorem dX8_playsOne_40 : decode cX8_playsOne 40 = .ok (.aload_n 0, 1) := by decide +kernel
theorem dX8_playsOne_41 : decode cX8_playsOne 41 = .ok (.getfield 103, 3) := by decide +kernel
theorem dX8_playsOne_44 : decode cX8_playsOne 44 = .ok (.iaload, 1) := by decide +kernel
theorem dX8_playsOne_45 : decode cX8_playsOne 45 = .ok (.if_icmp .le 16, 3) := by decide +kernel
theorem dX8_playsOne_48 : decode cX8_playsOne 48 = .ok (.aload_n 0, 1) := by decide +kernel
theorem dX8_playsOne_49 : decode cX8_playsOne 49 = .ok (.getfield 7, 3) := by decide +kernel
theorem dX8_playsOne_52 : decode cX8_playsOne 52 = .ok (.aload_n 0, 1) := by decide +kernel
theorem dX8_playsOne_53 : decode cX8_playsOne 53 = .ok (.getfield 103, 3) := by decide +kernel
theorem dX8_playsOne_56 : decode cX8_playsOne 56 = .ok (.iaload, 1) := by decide +kernel
theorem dX8_playsOne_57 : decode cX8_playsOne 57 = .ok (.i2l, 1) := by decide +kernel
theorem dX8_playsOne_58 : decode cX8_playsOne 58 = .ok (.goto 10, 3) := by decide +kernel
theorem dX8_playsOne_61 : decode cX8_playsOne 61 = .ok (.aload_n 0, 1) := by decide +kernel
theorem dX8_playsOne_62 : decode cX8_playsOne 62 = .ok (.getfield 7, 3) := by decide +kernel
theorem dX8_playsOne_65 : decode cX8_playsOne 65 = .ok (.iconst 0, 1) := by decide +kernel
theorem dX8_playsOne_66 : decode cX8_playsOne 66 = .ok (.iaload, 1) := by decide +kernel
theorem dX8_playsOne_67 : decode cX8_playsOne 67 = .ok (.i2l, 1) := by decide +kernel
theorem dX8_playsOne_68 : decode cX8_playsOne 68 = .ok (.invokevirtual 106, 3) := by decide +kernel
theorem dX8_playsOne_71 : decode cX8_playsOne 71 = .ok (.aload_n 0, 1) := by decide +kernel
theorem dX8_playsOne_72 : decode cX8_playsOne 72 = .ok (.getfield 63, 3) := by decide +kernel
theorem dX8_playsOne_75 : decode cX8_playsOne 75 = .ok (.aload_n 0, 1) := by decide +kernel
theorem dX8_playsOne_76 : decode cX8_playsOne 76 = .ok (.getfield 103, 3) := by decide +kernel
theorem dX8_playsOne_79 : decode cX8_playsOne 79 = .ok (.dup2, 1) := by decide +kernel
theorem dX8_playsOne_80 : decode cX8_playsOne 80 = .ok (.iaload, 1) := by decide +kernel
theorem dX8_playsOne_81 : decode cX8_playsOne 81 = .ok (.iconst 1, 1) := by decide +kernel
theorem dX8_playsOne_82 : decode cX8_playsOne 82 = .ok (.iadd, 1) := by decide +kernel
theorem dX8_playsOne_83 : decode cX8_playsOne 83 = .ok (.iastore, 1) := by decide +kernel
theorem dX8_playsOne_84 : decode cX8_playsOne 84 = .ok (.aload_n 0, 1) := by decide +kernel
theorem dX8_playsOne_85 : decode cX8_playsOne 85 = .ok (.invokevirtual 197, 3) := by decide +kernel
theorem dX8_playsOne_88 : decode cX8_playsOne 88 = .ok (.aload_n 0, 1) := by decide +kernel
theorem dX8_playsOne_89 : decode cX8_playsOne 89 = .ok (.dup, 1) := by decide +kernel
theorem dX8_playsOne_90 : decode cX8_playsOne 90 = .ok (.getfield 97, 3) := by decide +kernel
theorem dX8_playsOne_93 : decode cX8_playsOne 93 = .ok (.iconst 1, 1) := by decide +kernel
theorem dX8_playsOne_94 : decode cX8_playsOne 94 = .ok (.iadd, 1) := by decide +kernel
theorem dX8_playsOne_95 : decode cX8_playsOne 95 = .ok (.putfield 97, 3) := by decide +kernel
theorem dX8_playsOne_98 : decode cX8_playsOne 98 = .ok (.return_, 1) := by decide +kernel
theorem dX8_play_0 : decode cX8_play 0 = .ok (.aload_n 0, 1) := by decide +kernel
theorem dX8_play_1 : decode cX8_play 1 = .ok (.iload_n 1, 1) := by decide +kernel
theorem dX8_play_2 : decode cX8_play 2 = .ok (.iconst 1, 1) := by decide +kernel
theorem dX8_play_3 : decode cX8_play 3 = .ok (.sipush 200, 3) := by decide +kernel
theorem dX8_play_6 : decode cX8_play 6 = .ok (.invokestatic 113, 3) := by decide +kernel
theorem dX8_play_9 : decode cX8_play 9 = .ok (.invokevirtual 117, 3) := by decide +kernel
theorem dX8_play_12 : decode cX8_play 12 = .ok (.ifCond .ne 5, 3) := by decide +kernel
theorem dX8_play_15 : decode cX8_play 15 = .ok (.iconst 0, 1) := by decide +kernel
theorem dX8_play_16 : decode cX8_play 16 = .ok (.ireturn, 1) := by decide +kernel
theorem dX8_play_17 : decode cX8_play 17 = .ok (.iconst 0, 1) := by decide +kernel
theorem dX8_play_18 : decode cX8_play 18 = .ok (.istore_n 2, 1) := by decide +kernel
theorem dX8_play_19 : decode cX8_play 19 = .ok (.iload_n 2, 1) := by decide +kernel
theorem dX8_play_20 : decode cX8_play 20 = .ok (.iload_n 1, 1) := by decide +kernel
theorem dX8_play_21 : decode cX8_play 21 = .ok (.if_icmp .ge 13, 3) := by decide +kernel
theorem dX8_play_24 : decode cX8_play 24 = .ok (.aload_n 0, 1) := by decide +kernel
theorem dX8_play_25 : decode cX8_play 25 = .ok (.invokevirtual 200, 3) := by decide +kernel
theorem dX8_play_28 : decode cX8_play 28 = .ok (.iinc 2 1, 3) := by decide +kernel
theorem dX8_play_31 : decode cX8_play 31 = .ok (.goto (-12), 3) := by decide +kernel
theorem dX8_play_34 : decode cX8_play 34 = .ok (.aload_n 0, 1) := by decide +kernel
theorem dX8_play_35 : decode cX8_play 35 = .ok (.getfield 97, 3) := by decide +kernel
theorem dX8_play_38 : decode cX8_play 38 = .ok (.ireturn, 1) := by decide +kernel
theorem dX8_now_0 : decode cX8_now 0 = .ok (.aload_n 0, 1) := by decide +kernel
theorem dX8_now_1 : decode cX8_now 1 = .ok (.iconst 0, 1) := by decide +kernel
theorem dX8_now_2 : decode cX8_now 2 = .ok (.putfield 84, 3) := by decide +kernel
theorem dX8_now_5 : decode cX8_now 5 = .ok (.aload_n 0, 1) := by decide +kernel
theorem dX8_now_6 : decode cX8_now 6 = .ok (.getfield 97, 3) := by decide +kernel
theorem dX8_now_9 : decode cX8_now 9 = .ok (.ireturn, 1) := by decide +kernel
theorem dX8_state_0 : decode cX8_state 0 = .ok (.aload_n 0, 1) := by decide +kernel
theorem dX8_state_1 : decode cX8_state 1 = .ok (.iconst 0, 1) := by decide +kernel
theorem dX8_state_2 : decode cX8_state 2 = .ok (.putfield 84, 3) := by decide +kernel
theorem dX8_state_5 : decode cX8_state 5 = .ok (.aload_n 0, 1) := by decide +kernel
theorem dX8_state_6 : decode cX8_state 6 = .ok (.getfield 103, 3) := by decide +kernel
theorem dX8_state_9 : decode cX8_state 9 = .ok (.ireturn, 1) := by decide +kernel
theorem dX8_spent_0 : decode cX8_spent 0 = .ok (.aload_n 0, 1) := by decide +kernel
theorem dX8_spent_1 : decode cX8_spent 1 = .ok (.iconst 0, 1) := by decide +kernel
theorem dX8_spent_2 : decode cX8_spent 2 = .ok (.putfield 84, 3) := by decide +kernel
theorem dX8_spent_5 : decode cX8_spent 5 = .ok (.aload_n 0, 1) := by decide +kernel
theorem dX8_spent_6 : decode cX8_spent 6 = .ok (.getfield 87, 3) := by decide +kernel
theorem dX8_spent_9 : decode cX8_spent 9 = .ok (.lreturn, 1) := by decide +kernel
theorem dX8_ticksIn_0 : decode cX8_ticksIn 0 = .ok (.aload_n 0, 1) := by decide +kernel
theorem dX8_ticksIn_1 : decode cX8_ticksIn 1 = .ok (.iload_n 1, 1) := by decide +kernel
theorem dX8_ticksIn_2 : decode cX8_ticksIn 2 = .ok (.iconst 0, 1) := by decide +kernel
theorem dX8_ticksIn_3 : decode cX8_ticksIn 3 = .ok (.iconst 3, 1) := by decide +kernel
theorem dX8_ticksIn_4 : decode cX8_ticksIn 4 = .ok (.invokestatic 113, 3) := by decide +kernel
theorem dX8_ticksIn_7 : decode cX8_ticksIn 7 = .ok (.invokevirtual 117, 3) := by decide +kernel
theorem dX8_ticksIn_10 : decode cX8_ticksIn 10 = .ok (.ifCond .eq 12, 3) := by decide +kernel
theorem dX8_ticksIn_13 : decode cX8_ticksIn 13 = .ok (.aload_n 0, 1) := by decide +kernel
theorem dX8_ticksIn_14 : decode cX8_ticksIn 14 = .ok (.getfield 63, 3) := by decide +kernel
theorem dX8_ticksIn_17 : decode cX8_ticksIn 17 = .ok (.iload_n 1, 1) := by decide +kernel
theorem dX8_ticksIn_18 : decode cX8_ticksIn 18 = .ok (.iaload, 1) := by decide +kernel
theorem dX8_ticksIn_19 : decode cX8_ticksIn 19 = .ok (.goto 4, 3) := by decide +kernel
theorem dX8_ticksIn_22 : decode cX8_ticksIn 22 = .ok (.iconst 0, 1) := by decide +kernel
theorem dX8_ticksIn_23 : decode cX8_ticksIn 23 = .ok (.ireturn, 1) := by decide +kernel
theorem dX8_sleeps_0 : decode cX8_sleeps 0 = .ok (.aload_n 0, 1) := by decide +kernel
theorem dX8_sleeps_1 : decode cX8_sleeps 1 = .ok (.iconst 0, 1) := by decide +kernel
theorem dX8_sleeps_2 : decode cX8_sleeps 2 = .ok (.putfield 84, 3) := by decide +kernel
theorem dX8_sleeps_5 : decode cX8_sleeps 5 = .ok (.aload_n 0, 1) := by decide +kernel
theorem dX8_sleeps_6 : decode cX8_sleeps 6 = .ok (.getfield 177, 3) := by decide +kernel
theorem dX8_sleeps_9 : decode cX8_sleeps 9 = .ok (.ireturn, 1) := by decide +kernel
theorem dX8_lateness_0 : decode cX8_lateness 0 = .ok (.aload_n 0, 1) := by decide +kernel
theorem dX8_lateness_1 : decode cX8_lateness 1 = .ok (.iconst 0, 1) := by decide +kernel
theorem dX8_lateness_2 : decode cX8_lateness 2 = .ok (.putfield 84, 3) := by decide +kernel
theorem dX8_lateness_5 : decode cX8_lateness 5 = .ok (.aload_n 0, 1) := by decide +kernel
theorem dX8_lateness_6 : decode cX8_lateness 6 = .ok (.getfield 160, 3) := by decide +kernel
theorem dX8_lateness_9 : decode cX8_lateness 9 = .ok (.ireturn, 1) := by decide +kernel
theorem dX8_served_0 : decode cX8_served 0 = .ok (.aload_n 0, 1) := by decide +kernel
theorem dX8_served_1 : decode cX8_served 1 = .ok (.iconst 0, 1) := by decide +kernel
theorem dX8_served_2 : decode cX8_served 2 = .ok (.putfield 84, 3) := by decide +kernel
theorem dX8_served_5 : decode cX8_served 5 = .ok (.aload_n 0, 1) := by decide +kernel
theorem dX8_served_6 : decode cX8_served 6 = .ok (.getfield 163, 3) := by decide +kernel
theorem dX8_served_9 : decode cX8_served 9 = .ok (.ireturn, 1) := by decide +kernel
theorem dX8_setHarvest_0 : decode cX8_setHarvest 0 = .ok (.aload_n 0, 1) := by decide +kernel
theorem dX8_setHarvest_1 : decode cX8_setHarvest 1 = .ok (.iload_n 1, 1) := by decide +kernel
theorem dX8_setHarvest_2 : decode cX8_setHarvest 2 = .ok (.iconst 0, 1) := by decide +kernel
theorem dX8_setHarvest_3 : decode cX8_setHarvest 3 = .ok (.bipush 23, 2) := by decide +kernel
theorem dX8_setHarvest_5 : decode cX8_setHarvest 5 = .ok (.invokestatic 113, 3) := by decide +kernel
theorem dX8_setHarvest_8 : decode cX8_setHarvest 8 = .ok (.ifCond .eq 18, 3) := by decide +kernel
theorem dX8_setHarvest_11 : decode cX8_setHarvest 11 = .ok (.iload_n 2, 1) := by decide +kernel
theorem dX8_setHarvest_12 : decode cX8_setHarvest 12 = .ok (.iconst 0, 1) := by decide +kernel
theorem dX8_setHarvest_13 : decode cX8_setHarvest 13 = .ok (.sipush 1000, 3) := by decide +kernel
theorem dX8_setHarvest_16 : decode cX8_setHarvest 16 = .ok (.invokestatic 113, 3) := by decide +kernel
theorem dX8_setHarvest_19 : decode cX8_setHarvest 19 = .ok (.ifCond .eq 7, 3) := by decide +kernel
theorem dX8_setHarvest_22 : decode cX8_setHarvest 22 = .ok (.iconst 1, 1) := by decide +kernel
theorem dX8_setHarvest_23 : decode cX8_setHarvest 23 = .ok (.goto 4, 3) := by decide +kernel
theorem dX8_setHarvest_26 : decode cX8_setHarvest 26 = .ok (.iconst 0, 1) := by decide +kernel
theorem dX8_setHarvest_27 : decode cX8_setHarvest 27 = .ok (.invokevirtual 117, 3) := by decide +kernel
theorem dX8_setHarvest_30 : decode cX8_setHarvest 30 = .ok (.ifCond .ne 5, 3) := by decide +kernel
theorem dX8_setHarvest_33 : decode cX8_setHarvest 33 = .ok (.iconst 0, 1) := by decide +kernel
theorem dX8_setHarvest_34 : decode cX8_setHarvest 34 = .ok (.ireturn, 1) := by decide +kernel
theorem dX8_setHarvest_35 : decode cX8_setHarvest 35 = .ok (.aload_n 0, 1) := by decide +kernel
theorem dX8_setHarvest_36 : decode cX8_setHarvest 36 = .ok (.getfield 66, 3) := by decide +kernel
theorem dX8_setHarvest_39 : decode cX8_setHarvest 39 = .ok (.iload_n 1, 1) := by decide +kernel
theorem dX8_setHarvest_40 : decode cX8_setHarvest 40 = .ok (.iaload, 1) := by decide +kernel
theorem dX8_setHarvest_41 : decode cX8_setHarvest 41 = .ok (.istore_n 3, 1) := by decide +kernel
theorem dX8_setHarvest_42 : decode cX8_setHarvest 42 = .ok (.aload_n 0, 1) := by decide +kernel
theorem dX8_setHarvest_43 : decode cX8_setHarvest 43 = .ok (.getfield 66, 3) := by decide +kernel
theorem dX8_setHarvest_46 : decode cX8_setHarvest 46 = .ok (.iload_n 1, 1) := by decide +kernel
theorem dX8_setHarvest_47 : decode cX8_setHarvest 47 = .ok (.iload_n 2, 1) := by decide +kernel
theorem dX8_setHarvest_48 : decode cX8_setHarvest 48 = .ok (.iastore, 1) := by decide +kernel
theorem dX8_setHarvest_49 : decode cX8_setHarvest 49 = .ok (.iload_n 3, 1) := by decide +kernel
theorem dX8_setHarvest_50 : decode cX8_setHarvest 50 = .ok (.ireturn, 1) := by decide +kernel
theorem dX8_available_0 : decode cX8_available 0 = .ok (.aload_n 0, 1) := by decide +kernel
theorem dX8_available_1 : decode cX8_available 1 = .ok (.iconst 0, 1) := by decide +kernel
theorem dX8_available_2 : decode cX8_available 2 = .ok (.putfield 84, 3) := by decide +kernel
theorem dX8_available_5 : decode cX8_available 5 = .ok (.aload_n 0, 1) := by decide +kernel
theorem dX8_available_6 : decode cX8_available 6 = .ok (.getfield 70, 3) := by decide +kernel
theorem dX8_available_9 : decode cX8_available 9 = .ok (.ireturn, 1) := by decide +kernel
theorem dX8_bound_0 : decode cX8_bound 0 = .ok (.aload_n 0, 1) := by decide +kernel
theorem dX8_bound_1 : decode cX8_bound 1 = .ok (.iconst 0, 1) := by decide +kernel
theorem dX8_bound_2 : decode cX8_bound 2 = .ok (.putfield 84, 3) := by decide +kernel
theorem dX8_bound_5 : decode cX8_bound 5 = .ok (.aload_n 0, 1) := by decide +kernel
theorem dX8_bound_6 : decode cX8_bound 6 = .ok (.getfield 74, 3) := by decide +kernel
theorem dX8_bound_9 : decode cX8_bound 9 = .ok (.ireturn, 1) := by decide +kernel
theorem dX8_shortTicks_0 : decode cX8_shortTicks 0 = .ok (.aload_n 0, 1) := by decide +kernel
theorem dX8_shortTicks_1 : decode cX8_shortTicks 1 = .ok (.iconst 0, 1) := by decide +kernel
theorem dX8_shortTicks_2 : decode cX8_shortTicks 2 = .ok (.putfield 84, 3) := by decide +kernel
theorem dX8_shortTicks_5 : decode cX8_shortTicks 5 = .ok (.aload_n 0, 1) := by decide +kernel
theorem dX8_shortTicks_6 : decode cX8_shortTicks 6 = .ok (.getfield 180, 3) := by decide +kernel
theorem dX8_shortTicks_9 : decode cX8_shortTicks 9 = .ok (.ireturn, 1) := by decide +kernel
theorem dX8_isReach_0 : decode cX8_isReach 0 = .ok (.iload_n 1, 1) := by decide +kernel
theorem dX8_isReach_1 : decode cX8_isReach 1 = .ok (.aload_n 0, 1) := by decide +kernel
theorem dX8_isReach_2 : decode cX8_isReach 2 = .ok (.getfield 97, 3) := by decide +kernel
theorem dX8_isReach_5 : decode cX8_isReach 5 = .ok (.if_icmp .lt 19, 3) := by decide +kernel
theorem dX8_isReach_8 : decode cX8_isReach 8 = .ok (.iload_n 1, 1) := by decide +kernel
theorem dX8_isReach_9 : decode cX8_isReach 9 = .ok (.aload_n 0, 1) := by decide +kernel
theorem dX8_isReach_10 : decode cX8_isReach 10 = .ok (.getfield 97, 3) := by decide +kernel
theorem dX8_isReach_13 : decode cX8_isReach 13 = .ok (.sipush 400, 3) := by decide +kernel
theorem dX8_isReach_16 : decode cX8_isReach 16 = .ok (.iadd, 1) := by decide +kernel
theorem dX8_isReach_17 : decode cX8_isReach 17 = .ok (.if_icmp .gt 7, 3) := by decide +kernel
theorem dX8_isReach_20 : decode cX8_isReach 20 = .ok (.iconst 1, 1) := by decide +kernel
theorem dX8_isReach_21 : decode cX8_isReach 21 = .ok (.goto 4, 3) := by decide +kernel
theorem dX8_isReach_24 : decode cX8_isReach 24 = .ok (.iconst 0, 1) := by decide +kernel
theorem dX8_isReach_25 : decode cX8_isReach 25 = .ok (.ireturn, 1) := by decide +kernel
theorem dX8_nextPlanned_0 : decode cX8_nextPlanned 0 = .ok (.iload_n 2, 1) := by decide +kernel
theorem dX8_nextPlanned_1 : decode cX8_nextPlanned 1 = .ok (.istore_n 3, 1) := by decide +kernel
theorem dX8_nextPlanned_2 : decode cX8_nextPlanned 2 = .ok (.iconst 0, 1) := by decide +kernel
theorem dX8_nextPlanned_3 : decode cX8_nextPlanned 3 = .ok (.istore 4, 2) := by decide +kernel
theorem dX8_nextPlanned_5 : decode cX8_nextPlanned 5 = .ok (.iload 4, 2) := by decide +kernel
theorem dX8_nextPlanned_7 : decode cX8_nextPlanned 7 = .ok (.aload_n 0, 1) := by decide +kernel
theorem dX8_nextPlanned_8 : decode cX8_nextPlanned 8 = .ok (.getfield 146, 3) := by decide +kernel
theorem dX8_nextPlanned_11 : decode cX8_nextPlanned 11 = .ok (.if_icmp .ge 43, 3) := by decide +kernel
theorem dX8_nextPlanned_14 : decode cX8_nextPlanned 14 = .ok (.aload_n 0, 1) := by decide +kernel
theorem dX8_nextPlanned_15 : decode cX8_nextPlanned 15 = .ok (.getfield 42, 3) := by decide +kernel
theorem dX8_nextPlanned_18 : decode cX8_nextPlanned 18 = .ok (.iload 4, 2) := by decide +kernel
theorem dX8_nextPlanned_20 : decode cX8_nextPlanned 20 = .ok (.iaload, 1) := by decide +kernel
theorem dX8_nextPlanned_21 : decode cX8_nextPlanned 21 = .ok (.iload_n 1, 1) := by decide +kernel
theorem dX8_nextPlanned_22 : decode cX8_nextPlanned 22 = .ok (.if_icmp .le 24, 3) := by decide +kernel
theorem dX8_nextPlanned_25 : decode cX8_nextPlanned 25 = .ok (.aload_n 0, 1) := by decide +kernel
theorem dX8_nextPlanned_26 : decode cX8_nextPlanned 26 = .ok (.getfield 45, 3) := by decide +kernel
theorem dX8_nextPlanned_29 : decode cX8_nextPlanned 29 = .ok (.iload 4, 2) := by decide +kernel
theorem dX8_nextPlanned_31 : decode cX8_nextPlanned 31 = .ok (.iaload, 1) := by decide +kernel
theorem dX8_nextPlanned_32 : decode cX8_nextPlanned 32 = .ok (.iload_n 3, 1) := by decide +kernel
theorem dX8_nextPlanned_33 : decode cX8_nextPlanned 33 = .ok (.if_icmp .ge 13, 3) := by decide +kernel
theorem dX8_nextPlanned_36 : decode cX8_nextPlanned 36 = .ok (.aload_n 0, 1) := by decide +kernel
theorem dX8_nextPlanned_37 : decode cX8_nextPlanned 37 = .ok (.getfield 45, 3) := by decide +kernel
theorem dX8_nextPlanned_40 : decode cX8_nextPlanned 40 = .ok (.iload 4, 2) := by decide +kernel
theorem dX8_nextPlanned_42 : decode cX8_nextPlanned 42 = .ok (.iaload, 1) := by decide +kernel
theorem dX8_nextPlanned_43 : decode cX8_nextPlanned 43 = .ok (.goto 4, 3) := by decide +kernel
theorem dX8_nextPlanned_46 : decode cX8_nextPlanned 46 = .ok (.iload_n 3, 1) := by decide +kernel
theorem dX8_nextPlanned_47 : decode cX8_nextPlanned 47 = .ok (.istore_n 3, 1) := by decide +kernel
theorem dX8_nextPlanned_48 : decode cX8_nextPlanned 48 = .ok (.iinc 4 1, 3) := by decide +kernel
theorem dX8_nextPlanned_51 : decode cX8_nextPlanned 51 = .ok (.goto (-46), 3) := by decide +kernel
theorem dX8_nextPlanned_54 : decode cX8_nextPlanned 54 = .ok (.iload_n 3, 1) := by decide +kernel
theorem dX8_nextPlanned_55 : decode cX8_nextPlanned 55 = .ok (.ireturn, 1) := by decide +kernel
theorem dX8_wakeups_0 : decode cX8_wakeups 0 = .ok (.iconst 0, 1) := by decide +kernel
theorem dX8_wakeups_1 : decode cX8_wakeups 1 = .ok (.istore_n 2, 1) := by decide +kernel
theorem dX8_wakeups_2 : decode cX8_wakeups 2 = .ok (.aload_n 0, 1) := by decide +kernel
theorem dX8_wakeups_3 : decode cX8_wakeups 3 = .ok (.iconst (-1), 1) := by decide +kernel
theorem dX8_wakeups_4 : decode cX8_wakeups 4 = .ok (.iload_n 1, 1) := by decide +kernel
theorem dX8_wakeups_5 : decode cX8_wakeups 5 = .ok (.invokevirtual 203, 3) := by decide +kernel
theorem dX8_wakeups_8 : decode cX8_wakeups 8 = .ok (.istore_n 3, 1) := by decide +kernel
theorem dX8_wakeups_9 : decode cX8_wakeups 9 = .ok (.iload_n 3, 1) := by decide +kernel
theorem dX8_wakeups_10 : decode cX8_wakeups 10 = .ok (.iload_n 1, 1) := by decide +kernel
theorem dX8_wakeups_11 : decode cX8_wakeups 11 = .ok (.if_icmp .ge 16, 3) := by decide +kernel
theorem dX8_wakeups_14 : decode cX8_wakeups 14 = .ok (.iinc 2 1, 3) := by decide +kernel
theorem dX8_wakeups_17 : decode cX8_wakeups 17 = .ok (.aload_n 0, 1) := by decide +kernel
theorem dX8_wakeups_18 : decode cX8_wakeups 18 = .ok (.iload_n 3, 1) := by decide +kernel
theorem dX8_wakeups_19 : decode cX8_wakeups 19 = .ok (.iload_n 1, 1) := by decide +kernel
theorem dX8_wakeups_20 : decode cX8_wakeups 20 = .ok (.invokevirtual 203, 3) := by decide +kernel
theorem dX8_wakeups_23 : decode cX8_wakeups 23 = .ok (.istore_n 3, 1) := by decide +kernel
theorem dX8_wakeups_24 : decode cX8_wakeups 24 = .ok (.goto (-15), 3) := by decide +kernel
theorem dX8_wakeups_27 : decode cX8_wakeups 27 = .ok (.iload_n 2, 1) := by decide +kernel
theorem dX8_wakeups_28 : decode cX8_wakeups 28 = .ok (.ireturn, 1) := by decide +kernel
theorem dX8_plannedWakeups_0 : decode cX8_plannedWakeups 0 = .ok (.aload_n 0, 1) := by decide +kernel
theorem dX8_plannedWakeups_1 : decode cX8_plannedWakeups 1 = .ok (.aload_n 0, 1) := by decide +kernel
theorem dX8_plannedWakeups_2 : decode cX8_plannedWakeups 2 = .ok (.iload_n 1, 1) := by decide +kernel
theorem dX8_plannedWakeups_3 : decode cX8_plannedWakeups 3 = .ok (.invokevirtual 206, 3) := by decide +kernel
theorem dX8_plannedWakeups_6 : decode cX8_plannedWakeups 6 = .ok (.invokevirtual 117, 3) := by decide +kernel
theorem dX8_plannedWakeups_9 : decode cX8_plannedWakeups 9 = .ok (.ifCond .eq 11, 3) := by decide +kernel
theorem dX8_plannedWakeups_12 : decode cX8_plannedWakeups 12 = .ok (.aload_n 0, 1) := by decide +kernel
theorem dX8_plannedWakeups_13 : decode cX8_plannedWakeups 13 = .ok (.iload_n 1, 1) := by decide +kernel
theorem dX8_plannedWakeups_14 : decode cX8_plannedWakeups 14 = .ok (.invokevirtual 209, 3) := by decide +kernel
theorem dX8_plannedWakeups_17 : decode cX8_plannedWakeups 17 = .ok (.goto 4, 3) := by decide +kernel
theorem dX8_plannedWakeups_20 : decode cX8_plannedWakeups 20 = .ok (.iconst 0, 1) := by decide +kernel
theorem dX8_plannedWakeups_21 : decode cX8_plannedWakeups 21 = .ok (.ireturn, 1) := by decide +kernel
theorem dX8_fewestWakeups_0 : decode cX8_fewestWakeups 0 = .ok (.aload_n 0, 1) := by decide +kernel
theorem dX8_fewestWakeups_1 : decode cX8_fewestWakeups 1 = .ok (.aload_n 0, 1) := by decide +kernel
theorem dX8_fewestWakeups_2 : decode cX8_fewestWakeups 2 = .ok (.iload_n 1, 1) := by decide +kernel
theorem dX8_fewestWakeups_3 : decode cX8_fewestWakeups 3 = .ok (.invokevirtual 206, 3) := by decide +kernel
theorem dX8_fewestWakeups_6 : decode cX8_fewestWakeups 6 = .ok (.invokevirtual 117, 3) := by decide +kernel
theorem dX8_fewestWakeups_9 : decode cX8_fewestWakeups 9 = .ok (.ifCond .eq 11, 3) := by decide +kernel
theorem dX8_fewestWakeups_12 : decode cX8_fewestWakeups 12 = .ok (.aload_n 0, 1) := by decide +kernel
theorem dX8_fewestWakeups_13 : decode cX8_fewestWakeups 13 = .ok (.iload_n 1, 1) := by decide +kernel
theorem dX8_fewestWakeups_14 : decode cX8_fewestWakeups 14 = .ok (.invokevirtual 209, 3) := by decide +kernel
theorem dX8_fewestWakeups_17 : decode cX8_fewestWakeups 17 = .ok (.goto 4, 3) := by decide +kernel
theorem dX8_fewestWakeups_20 : decode cX8_fewestWakeups 20 = .ok (.iconst 0, 1) := by decide +kernel
theorem dX8_fewestWakeups_21 : decode cX8_fewestWakeups 21 = .ok (.ireturn, 1) := by decide +kernel
theorem dX8_plannedCost_0 : decode cX8_plannedCost 0 = .ok (.aload_n 0, 1) := by decide +kernel
theorem dX8_plannedCost_1 : decode cX8_plannedCost 1 = .ok (.aload_n 0, 1) := by decide +kernel
theorem dX8_plannedCost_2 : decode cX8_plannedCost 2 = .ok (.iload_n 1, 1) := by decide +kernel
theorem dX8_plannedCost_3 : decode cX8_plannedCost 3 = .ok (.invokevirtual 206, 3) := by decide +kernel
theorem dX8_plannedCost_6 : decode cX8_plannedCost 6 = .ok (.invokevirtual 117, 3) := by decide +kernel
theorem dX8_plannedCost_9 : decode cX8_plannedCost 9 = .ok (.ifCond .ne 5, 3) := by decide +kernel
theorem dX8_plannedCost_12 : decode cX8_plannedCost 12 = .ok (.lconst 0, 1) := by decide +kernel
theorem dX8_plannedCost_13 : decode cX8_plannedCost 13 = .ok (.lreturn, 1) := by decide +kernel
theorem dX8_plannedCost_14 : decode cX8_plannedCost 14 = .ok (.lconst 0, 1) := by decide +kernel
theorem dX8_plannedCost_15 : decode cX8_plannedCost 15 = .ok (.lstore_n 2, 1) := by decide +kernel
theorem dX8_plannedCost_16 : decode cX8_plannedCost 16 = .ok (.aload_n 0, 1) := by decide +kernel
theorem dX8_plannedCost_17 : decode cX8_plannedCost 17 = .ok (.getfield 97, 3) := by decide +kernel
theorem dX8_plannedCost_20 : decode cX8_plannedCost 20 = .ok (.istore 4, 2) := by decide +kernel
theorem dX8_plannedCost_22 : decode cX8_plannedCost 22 = .ok (.aload_n 0, 1) := by decide +kernel
theorem dX8_plannedCost_23 : decode cX8_plannedCost 23 = .ok (.iconst (-1), 1) := by decide +kernel
theorem dX8_plannedCost_24 : decode cX8_plannedCost 24 = .ok (.iload_n 1, 1) := by decide +kernel
theorem dX8_plannedCost_25 : decode cX8_plannedCost 25 = .ok (.invokevirtual 203, 3) := by decide +kernel
theorem dX8_plannedCost_28 : decode cX8_plannedCost 28 = .ok (.istore 5, 2) := by decide +kernel
theorem dX8_plannedCost_30 : decode cX8_plannedCost 30 = .ok (.iconst 0, 1) := by decide +kernel
theorem dX8_plannedCost_31 : decode cX8_plannedCost 31 = .ok (.istore 6, 2) := by decide +kernel
theorem dX8_plannedCost_33 : decode cX8_plannedCost 33 = .ok (.iload 6, 2) := by decide +kernel
theorem dX8_plannedCost_35 : decode cX8_plannedCost 35 = .ok (.ifCond .ne 54, 3) := by decide +kernel
theorem dX8_plannedCost_38 : decode cX8_plannedCost 38 = .ok (.lload_n 2, 1) := by decide +kernel
theorem dX8_plannedCost_39 : decode cX8_plannedCost 39 = .ok (.aload_n 0, 1) := by decide +kernel
theorem dX8_plannedCost_40 : decode cX8_plannedCost 40 = .ok (.aload_n 0, 1) := by decide +kernel
theorem dX8_plannedCost_41 : decode cX8_plannedCost 41 = .ok (.iconst 1, 1) := by decide +kernel
theorem dX8_plannedCost_42 : decode cX8_plannedCost 42 = .ok (.iload 5, 2) := by decide +kernel
theorem dX8_plannedCost_44 : decode cX8_plannedCost 44 = .ok (.iload 4, 2) := by decide +kernel
theorem dX8_plannedCost_46 : decode cX8_plannedCost 46 = .ok (.isub, 1) := by decide +kernel
theorem dX8_plannedCost_47 : decode cX8_plannedCost 47 = .ok (.invokevirtual 173, 3) := by decide +kernel
theorem dX8_plannedCost_50 : decode cX8_plannedCost 50 = .ok (.iload 5, 2) := by decide +kernel
theorem dX8_plannedCost_52 : decode cX8_plannedCost 52 = .ok (.iload 4, 2) := by decide +kernel
theorem dX8_plannedCost_54 : decode cX8_plannedCost 54 = .ok (.isub, 1) := by decide +kernel
theorem dX8_plannedCost_55 : decode cX8_plannedCost 55 = .ok (.invokevirtual 139, 3) := by decide +kernel
theorem dX8_plannedCost_58 : decode cX8_plannedCost 58 = .ok (.ladd, 1) := by decide +kernel
theorem dX8_plannedCost_59 : decode cX8_plannedCost 59 = .ok (.lstore_n 2, 1) := by decide +kernel
theorem dX8_plannedCost_60 : decode cX8_plannedCost 60 = .ok (.iload 5, 2) := by decide +kernel
theorem dX8_plannedCost_62 : decode cX8_plannedCost 62 = .ok (.iload_n 1, 1) := by decide +kernel
theorem dX8_plannedCost_63 : decode cX8_plannedCost 63 = .ok (.if_icmp .ne 7, 3) := by decide +kernel
theorem dX8_plannedCost_66 : decode cX8_plannedCost 66 = .ok (.iconst 1, 1) := by decide +kernel
theorem dX8_plannedCost_67 : decode cX8_plannedCost 67 = .ok (.goto 4, 3) := by decide +kernel
theorem dX8_plannedCost_70 : decode cX8_plannedCost 70 = .ok (.iconst 0, 1) := by decide +kernel
theorem dX8_plannedCost_71 : decode cX8_plannedCost 71 = .ok (.istore 6, 2) := by decide +kernel
theorem dX8_plannedCost_73 : decode cX8_plannedCost 73 = .ok (.iload 5, 2) := by decide +kernel
theorem dX8_plannedCost_75 : decode cX8_plannedCost 75 = .ok (.istore 4, 2) := by decide +kernel
theorem dX8_plannedCost_77 : decode cX8_plannedCost 77 = .ok (.aload_n 0, 1) := by decide +kernel
theorem dX8_plannedCost_78 : decode cX8_plannedCost 78 = .ok (.iload 4, 2) := by decide +kernel
theorem dX8_plannedCost_80 : decode cX8_plannedCost 80 = .ok (.iload_n 1, 1) := by decide +kernel
theorem dX8_plannedCost_81 : decode cX8_plannedCost 81 = .ok (.invokevirtual 203, 3) := by decide +kernel
theorem dX8_plannedCost_84 : decode cX8_plannedCost 84 = .ok (.istore 5, 2) := by decide +kernel
theorem dX8_plannedCost_86 : decode cX8_plannedCost 86 = .ok (.goto (-53), 3) := by decide +kernel
theorem dX8_plannedCost_89 : decode cX8_plannedCost 89 = .ok (.lload_n 2, 1) := by decide +kernel
theorem dX8_plannedCost_90 : decode cX8_plannedCost 90 = .ok (.lreturn, 1) := by decide +kernel
theorem dX8_leastCost_0 : decode cX8_leastCost 0 = .ok (.aload_n 0, 1) := by decide +kernel
theorem dX8_leastCost_1 : decode cX8_leastCost 1 = .ok (.aload_n 0, 1) := by decide +kernel
theorem dX8_leastCost_2 : decode cX8_leastCost 2 = .ok (.iload_n 1, 1) := by decide +kernel
theorem dX8_leastCost_3 : decode cX8_leastCost 3 = .ok (.invokevirtual 206, 3) := by decide +kernel
theorem dX8_leastCost_6 : decode cX8_leastCost 6 = .ok (.invokevirtual 117, 3) := by decide +kernel
theorem dX8_leastCost_9 : decode cX8_leastCost 9 = .ok (.ifCond .ne 5, 3) := by decide +kernel
theorem dX8_leastCost_12 : decode cX8_leastCost 12 = .ok (.lconst 0, 1) := by decide +kernel
theorem dX8_leastCost_13 : decode cX8_leastCost 13 = .ok (.lreturn, 1) := by decide +kernel
theorem dX8_leastCost_14 : decode cX8_leastCost 14 = .ok (.aload_n 0, 1) := by decide +kernel
theorem dX8_leastCost_15 : decode cX8_leastCost 15 = .ok (.invokevirtual 135, 3) := by decide +kernel
theorem dX8_leastCost_18 : decode cX8_leastCost 18 = .ok (.istore_n 2, 1) := by decide +kernel
theorem dX8_leastCost_19 : decode cX8_leastCost 19 = .ok (.iload_n 1, 1) := by decide +kernel
theorem dX8_leastCost_20 : decode cX8_leastCost 20 = .ok (.aload_n 0, 1) := by decide +kernel
theorem dX8_leastCost_21 : decode cX8_leastCost 21 = .ok (.getfield 97, 3) := by decide +kernel
theorem dX8_leastCost_24 : decode cX8_leastCost 24 = .ok (.isub, 1) := by decide +kernel
theorem dX8_leastCost_25 : decode cX8_leastCost 25 = .ok (.istore_n 3, 1) := by decide +kernel
theorem dX8_leastCost_26 : decode cX8_leastCost 26 = .ok (.iconst 0, 1) := by decide +kernel
theorem dX8_leastCost_27 : decode cX8_leastCost 27 = .ok (.istore 4, 2) := by decide +kernel
theorem dX8_leastCost_29 : decode cX8_leastCost 29 = .ok (.iload 4, 2) := by decide +kernel
theorem dX8_leastCost_31 : decode cX8_leastCost 31 = .ok (.iload_n 3, 1) := by decide +kernel
theorem dX8_leastCost_32 : decode cX8_leastCost 32 = .ok (.if_icmp .gt 112, 3) := by decide +kernel
theorem dX8_leastCost_35 : decode cX8_leastCost 35 = .ok (.aload_n 0, 1) := by decide +kernel
theorem dX8_leastCost_36 : decode cX8_leastCost 36 = .ok (.getfield 81, 3) := by decide +kernel
theorem dX8_leastCost_39 : decode cX8_leastCost 39 = .ok (.iload 4, 2) := by decide +kernel
theorem dX8_leastCost_41 : decode cX8_leastCost 41 = .ok (.aload_n 0, 1) := by decide +kernel
theorem dX8_leastCost_42 : decode cX8_leastCost 42 = .ok (.iconst 0, 1) := by decide +kernel
theorem dX8_leastCost_43 : decode cX8_leastCost 43 = .ok (.iload 4, 2) := by decide +kernel
theorem dX8_leastCost_45 : decode cX8_leastCost 45 = .ok (.invokevirtual 139, 3) := by decide +kernel
theorem dX8_leastCost_48 : decode cX8_leastCost 48 = .ok (.lastore, 1) := by decide +kernel
theorem dX8_leastCost_49 : decode cX8_leastCost 49 = .ok (.iconst 1, 1) := by decide +kernel
theorem dX8_leastCost_50 : decode cX8_leastCost 50 = .ok (.istore 5, 2) := by decide +kernel
theorem dX8_leastCost_52 : decode cX8_leastCost 52 = .ok (.iload 5, 2) := by decide +kernel
theorem dX8_leastCost_54 : decode cX8_leastCost 54 = .ok (.iload_n 2, 1) := by decide +kernel
theorem dX8_leastCost_55 : decode cX8_leastCost 55 = .ok (.if_icmp .gt 73, 3) := by decide +kernel
theorem dX8_leastCost_58 : decode cX8_leastCost 58 = .ok (.aload_n 0, 1) := by decide +kernel
theorem dX8_leastCost_59 : decode cX8_leastCost 59 = .ok (.getfield 16, 3) := by decide +kernel
theorem dX8_leastCost_62 : decode cX8_leastCost 62 = .ok (.iload 5, 2) := by decide +kernel
theorem dX8_leastCost_64 : decode cX8_leastCost 64 = .ok (.iaload, 1) := by decide +kernel
theorem dX8_leastCost_65 : decode cX8_leastCost 65 = .ok (.iload 4, 2) := by decide +kernel
theorem dX8_leastCost_67 : decode cX8_leastCost 67 = .ok (.if_icmp .gt 14, 3) := by decide +kernel
theorem dX8_leastCost_70 : decode cX8_leastCost 70 = .ok (.aload_n 0, 1) := by decide +kernel
theorem dX8_leastCost_71 : decode cX8_leastCost 71 = .ok (.iload 5, 2) := by decide +kernel
theorem dX8_leastCost_73 : decode cX8_leastCost 73 = .ok (.iload 4, 2) := by decide +kernel
theorem dX8_leastCost_75 : decode cX8_leastCost 75 = .ok (.invokevirtual 139, 3) := by decide +kernel
theorem dX8_leastCost_78 : decode cX8_leastCost 78 = .ok (.goto 10, 3) := by decide +kernel
theorem dX8_leastCost_81 : decode cX8_leastCost 81 = .ok (.aload_n 0, 1) := by decide +kernel
theorem dX8_leastCost_82 : decode cX8_leastCost 82 = .ok (.getfield 81, 3) := by decide +kernel
theorem dX8_leastCost_85 : decode cX8_leastCost 85 = .ok (.iload 4, 2) := by decide +kernel
theorem dX8_leastCost_87 : decode cX8_leastCost 87 = .ok (.laload, 1) := by decide +kernel
theorem dX8_leastCost_88 : decode cX8_leastCost 88 = .ok (.lstore 6, 2) := by decide +kernel
theorem dX8_leastCost_90 : decode cX8_leastCost 90 = .ok (.aload_n 0, 1) := by decide +kernel
theorem dX8_leastCost_91 : decode cX8_leastCost 91 = .ok (.getfield 81, 3) := by decide +kernel
theorem dX8_leastCost_94 : decode cX8_leastCost 94 = .ok (.iload 4, 2) := by decide +kernel
theorem dX8_leastCost_96 : decode cX8_leastCost 96 = .ok (.lload 6, 2) := by decide +kernel
theorem dX8_leastCost_98 : decode cX8_leastCost 98 = .ok (.aload_n 0, 1) := by decide +kernel
theorem dX8_leastCost_99 : decode cX8_leastCost 99 = .ok (.getfield 81, 3) := by decide +kernel
theorem dX8_leastCost_102 : decode cX8_leastCost 102 = .ok (.iload 4, 2) := by decide +kernel
theorem dX8_leastCost_104 : decode cX8_leastCost 104 = .ok (.laload, 1) := by decide +kernel
theorem dX8_leastCost_105 : decode cX8_leastCost 105 = .ok (.lcmp, 1) := by decide +kernel
theorem dX8_leastCost_106 : decode cX8_leastCost 106 = .ok (.ifCond .ge 8, 3) := by decide +kernel
theorem dX8_leastCost_109 : decode cX8_leastCost 109 = .ok (.lload 6, 2) := by decide +kernel
theorem dX8_leastCost_111 : decode cX8_leastCost 111 = .ok (.goto 10, 3) := by decide +kernel
theorem dX8_leastCost_114 : decode cX8_leastCost 114 = .ok (.aload_n 0, 1) := by decide +kernel
theorem dX8_leastCost_115 : decode cX8_leastCost 115 = .ok (.getfield 81, 3) := by decide +kernel
theorem dX8_leastCost_118 : decode cX8_leastCost 118 = .ok (.iload 4, 2) := by decide +kernel
theorem dX8_leastCost_120 : decode cX8_leastCost 120 = .ok (.laload, 1) := by decide +kernel
theorem dX8_leastCost_121 : decode cX8_leastCost 121 = .ok (.lastore, 1) := by decide +kernel
theorem dX8_leastCost_122 : decode cX8_leastCost 122 = .ok (.iinc 5 1, 3) := by decide +kernel
theorem dX8_leastCost_125 : decode cX8_leastCost 125 = .ok (.goto (-73), 3) := by decide +kernel
theorem dX8_leastCost_128 : decode cX8_leastCost 128 = .ok (.aload_n 0, 1) := by decide +kernel
theorem dX8_leastCost_129 : decode cX8_leastCost 129 = .ok (.getfield 77, 3) := by decide +kernel
theorem dX8_leastCost_132 : decode cX8_leastCost 132 = .ok (.iload 4, 2) := by decide +kernel
theorem dX8_leastCost_134 : decode cX8_leastCost 134 = .ok (.ldc2_w 212, 3) := by decide +kernel
theorem dX8_leastCost_137 : decode cX8_leastCost 137 = .ok (.lastore, 1) := by decide +kernel
theorem dX8_leastCost_138 : decode cX8_leastCost 138 = .ok (.iinc 4 1, 3) := by decide +kernel
theorem dX8_leastCost_141 : decode cX8_leastCost 141 = .ok (.goto (-112), 3) := by decide +kernel
theorem dX8_leastCost_144 : decode cX8_leastCost 144 = .ok (.aload_n 0, 1) := by decide +kernel
theorem dX8_leastCost_145 : decode cX8_leastCost 145 = .ok (.getfield 77, 3) := by decide +kernel
theorem dX8_leastCost_148 : decode cX8_leastCost 148 = .ok (.iconst 0, 1) := by decide +kernel
theorem dX8_leastCost_149 : decode cX8_leastCost 149 = .ok (.lconst 0, 1) := by decide +kernel
theorem dX8_leastCost_150 : decode cX8_leastCost 150 = .ok (.lastore, 1) := by decide +kernel
theorem dX8_leastCost_151 : decode cX8_leastCost 151 = .ok (.iconst 0, 1) := by decide +kernel
theorem dX8_leastCost_152 : decode cX8_leastCost 152 = .ok (.istore 4, 2) := by decide +kernel
theorem dX8_leastCost_154 : decode cX8_leastCost 154 = .ok (.iload 4, 2) := by decide +kernel
theorem dX8_leastCost_156 : decode cX8_leastCost 156 = .ok (.iload_n 3, 1) := by decide +kernel
theorem dX8_leastCost_157 : decode cX8_leastCost 157 = .ok (.if_icmp .ge 127, 3) := by decide +kernel
theorem dX8_leastCost_160 : decode cX8_leastCost 160 = .ok (.aload_n 0, 1) := by decide +kernel
theorem dX8_leastCost_161 : decode cX8_leastCost 161 = .ok (.aload_n 0, 1) := by decide +kernel
theorem dX8_leastCost_162 : decode cX8_leastCost 162 = .ok (.getfield 97, 3) := by decide +kernel
theorem dX8_leastCost_165 : decode cX8_leastCost 165 = .ok (.iload 4, 2) := by decide +kernel
theorem dX8_leastCost_167 : decode cX8_leastCost 167 = .ok (.iadd, 1) := by decide +kernel
theorem dX8_leastCost_168 : decode cX8_leastCost 168 = .ok (.iload_n 1, 1) := by decide +kernel
theorem dX8_leastCost_169 : decode cX8_leastCost 169 = .ok (.invokevirtual 203, 3) := by decide +kernel
theorem dX8_leastCost_172 : decode cX8_leastCost 172 = .ok (.aload_n 0, 1) := by decide +kernel
theorem dX8_leastCost_173 : decode cX8_leastCost 173 = .ok (.getfield 97, 3) := by decide +kernel
theorem dX8_leastCost_176 : decode cX8_leastCost 176 = .ok (.isub, 1) := by decide +kernel
theorem dX8_leastCost_177 : decode cX8_leastCost 177 = .ok (.istore 5, 2) := by decide +kernel
theorem dX8_leastCost_179 : decode cX8_leastCost 179 = .ok (.iload 4, 2) := by decide +kernel
theorem dX8_leastCost_181 : decode cX8_leastCost 181 = .ok (.iconst 1, 1) := by decide +kernel
theorem dX8_leastCost_182 : decode cX8_leastCost 182 = .ok (.iadd, 1) := by decide +kernel
theorem dX8_leastCost_183 : decode cX8_leastCost 183 = .ok (.istore 6, 2) := by decide +kernel
theorem dX8_leastCost_185 : decode cX8_leastCost 185 = .ok (.iload 6, 2) := by decide +kernel
theorem dX8_leastCost_187 : decode cX8_leastCost 187 = .ok (.iload 5, 2) := by decide +kernel
theorem dX8_leastCost_189 : decode cX8_leastCost 189 = .ok (.if_icmp .gt 89, 3) := by decide +kernel
theorem dX8_leastCost_192 : decode cX8_leastCost 192 = .ok (.aload_n 0, 1) := by decide +kernel
theorem dX8_leastCost_193 : decode cX8_leastCost 193 = .ok (.getfield 77, 3) := by decide +kernel
theorem dX8_leastCost_196 : decode cX8_leastCost 196 = .ok (.iload 4, 2) := by decide +kernel
theorem dX8_leastCost_198 : decode cX8_leastCost 198 = .ok (.laload, 1) := by decide +kernel
theorem dX8_leastCost_199 : decode cX8_leastCost 199 = .ok (.ldc2_w 212, 3) := by decide +kernel
theorem dX8_leastCost_202 : decode cX8_leastCost 202 = .ok (.lcmp, 1) := by decide +kernel
theorem dX8_leastCost_203 : decode cX8_leastCost 203 = .ok (.ifCond .eq 75, 3) := by decide +kernel
theorem dX8_leastCost_206 : decode cX8_leastCost 206 = .ok (.aload_n 0, 1) := by decide +kernel
theorem dX8_leastCost_207 : decode cX8_leastCost 207 = .ok (.getfield 77, 3) := by decide +kernel
theorem dX8_leastCost_210 : decode cX8_leastCost 210 = .ok (.iload 4, 2) := by decide +kernel
theorem dX8_leastCost_212 : decode cX8_leastCost 212 = .ok (.laload, 1) := by decide +kernel
theorem dX8_leastCost_213 : decode cX8_leastCost 213 = .ok (.aload_n 0, 1) := by decide +kernel
theorem dX8_leastCost_214 : decode cX8_leastCost 214 = .ok (.getfield 81, 3) := by decide +kernel
theorem dX8_leastCost_217 : decode cX8_leastCost 217 = .ok (.iload 6, 2) := by decide +kernel
theorem dX8_leastCost_219 : decode cX8_leastCost 219 = .ok (.iload 4, 2) := by decide +kernel
theorem dX8_leastCost_221 : decode cX8_leastCost 221 = .ok (.isub, 1) := by decide +kernel
theorem dX8_leastCost_222 : decode cX8_leastCost 222 = .ok (.laload, 1) := by decide +kernel
theorem dX8_leastCost_223 : decode cX8_leastCost 223 = .ok (.ladd, 1) := by decide +kernel
theorem dX8_leastCost_224 : decode cX8_leastCost 224 = .ok (.lstore 7, 2) := by decide +kernel
theorem dX8_leastCost_226 : decode cX8_leastCost 226 = .ok (.aload_n 0, 1) := by decide +kernel
theorem dX8_leastCost_227 : decode cX8_leastCost 227 = .ok (.getfield 77, 3) := by decide +kernel
theorem dX8_leastCost_230 : decode cX8_leastCost 230 = .ok (.iload 6, 2) := by decide +kernel
theorem dX8_leastCost_232 : decode cX8_leastCost 232 = .ok (.aload_n 0, 1) := by decide +kernel
theorem dX8_leastCost_233 : decode cX8_leastCost 233 = .ok (.getfield 77, 3) := by decide +kernel
theorem dX8_leastCost_236 : decode cX8_leastCost 236 = .ok (.iload 6, 2) := by decide +kernel
theorem dX8_leastCost_238 : decode cX8_leastCost 238 = .ok (.laload, 1) := by decide +kernel
theorem dX8_leastCost_239 : decode cX8_leastCost 239 = .ok (.ldc2_w 212, 3) := by decide +kernel
theorem dX8_leastCost_242 : decode cX8_leastCost 242 = .ok (.lcmp, 1) := by decide +kernel
theorem dX8_leastCost_243 : decode cX8_leastCost 243 = .ok (.ifCond .eq 16, 3) := by decide +kernel
theorem dX8_leastCost_246 : decode cX8_leastCost 246 = .ok (.lload 7, 2) := by decide +kernel
theorem dX8_leastCost_248 : decode cX8_leastCost 248 = .ok (.aload_n 0, 1) := by decide +kernel
theorem dX8_leastCost_249 : decode cX8_leastCost 249 = .ok (.getfield 77, 3) := by decide +kernel
theorem dX8_leastCost_252 : decode cX8_leastCost 252 = .ok (.iload 6, 2) := by decide +kernel
theorem dX8_leastCost_254 : decode cX8_leastCost 254 = .ok (.laload, 1) := by decide +kernel
theorem dX8_leastCost_255 : decode cX8_leastCost 255 = .ok (.lcmp, 1) := by decide +kernel
theorem dX8_leastCost_256 : decode cX8_leastCost 256 = .ok (.ifCond .ge 8, 3) := by decide +kernel
theorem dX8_leastCost_259 : decode cX8_leastCost 259 = .ok (.lload 7, 2) := by decide +kernel
theorem dX8_leastCost_261 : decode cX8_leastCost 261 = .ok (.goto 10, 3) := by decide +kernel
theorem dX8_leastCost_264 : decode cX8_leastCost 264 = .ok (.aload_n 0, 1) := by decide +kernel
theorem dX8_leastCost_265 : decode cX8_leastCost 265 = .ok (.getfield 77, 3) := by decide +kernel
theorem dX8_leastCost_268 : decode cX8_leastCost 268 = .ok (.iload 6, 2) := by decide +kernel
theorem dX8_leastCost_270 : decode cX8_leastCost 270 = .ok (.laload, 1) := by decide +kernel
theorem dX8_leastCost_271 : decode cX8_leastCost 271 = .ok (.lastore, 1) := by decide +kernel
theorem dX8_leastCost_272 : decode cX8_leastCost 272 = .ok (.iinc 6 1, 3) := by decide +kernel
theorem dX8_leastCost_275 : decode cX8_leastCost 275 = .ok (.goto (-90), 3) := by decide +kernel
theorem dX8_leastCost_278 : decode cX8_leastCost 278 = .ok (.iinc 4 1, 3) := by decide +kernel
theorem dX8_leastCost_281 : decode cX8_leastCost 281 = .ok (.goto (-127), 3) := by decide +kernel
theorem dX8_leastCost_284 : decode cX8_leastCost 284 = .ok (.aload_n 0, 1) := by decide +kernel
theorem dX8_leastCost_285 : decode cX8_leastCost 285 = .ok (.getfield 77, 3) := by decide +kernel
theorem dX8_leastCost_288 : decode cX8_leastCost 288 = .ok (.iload_n 3, 1) := by decide +kernel
theorem dX8_leastCost_289 : decode cX8_leastCost 289 = .ok (.laload, 1) := by decide +kernel
theorem dX8_leastCost_290 : decode cX8_leastCost 290 = .ok (.lreturn, 1) := by decide +kernel
