theorem dX7_init_0 : decode cX7_init 0 = .ok (.aload_n 0, 1) := by decide +kernel
theorem dX7_init_1 : decode cX7_init 1 = .ok (.invokespecial 1, 3) := by decide +kernel
theorem dX7_init_4 : decode cX7_init 4 = .ok (.aload_n 0, 1) := by decide +kernel
theorem dX7_init_5 : decode cX7_init 5 = .ok (.new 7, 3) := by decide +kernel
theorem dX7_init_8 : decode cX7_init 8 = .ok (.dup, 1) := by decide +kernel
theorem dX7_init_9 : decode cX7_init 9 = .ok (.invokespecial 9, 3) := by decide +kernel
theorem dX7_init_12 : decode cX7_init 12 = .ok (.putfield 10, 3) := by decide +kernel
theorem dX7_init_15 : decode cX7_init 15 = .ok (.aload_n 0, 1) := by decide +kernel
theorem dX7_init_16 : decode cX7_init 16 = .ok (.bipush 6, 2) := by decide +kernel
theorem dX7_init_18 : decode cX7_init 18 = .ok (.newarray .int, 2) := by decide +kernel
theorem dX7_init_20 : decode cX7_init 20 = .ok (.dup, 1) := by decide +kernel
theorem dX7_init_21 : decode cX7_init 21 = .ok (.iconst 0, 1) := by decide +kernel
theorem dX7_init_22 : decode cX7_init 22 = .ok (.iconst 3, 1) := by decide +kernel
theorem dX7_init_23 : decode cX7_init 23 = .ok (.iastore, 1) := by decide +kernel
theorem dX7_init_24 : decode cX7_init 24 = .ok (.dup, 1) := by decide +kernel
theorem dX7_init_25 : decode cX7_init 25 = .ok (.iconst 1, 1) := by decide +kernel
theorem dX7_init_26 : decode cX7_init 26 = .ok (.iconst 3, 1) := by decide +kernel
theorem dX7_init_27 : decode cX7_init 27 = .ok (.iastore, 1) := by decide +kernel
theorem dX7_init_28 : decode cX7_init 28 = .ok (.dup, 1) := by decide +kernel
theorem dX7_init_29 : decode cX7_init 29 = .ok (.iconst 2, 1) := by decide +kernel
theorem dX7_init_30 : decode cX7_init 30 = .ok (.iconst 3, 1) := by decide +kernel
theorem dX7_init_31 : decode cX7_init 31 = .ok (.iastore, 1) := by decide +kernel
theorem dX7_init_32 : decode cX7_init 32 = .ok (.dup, 1) := by decide +kernel
theorem dX7_init_33 : decode cX7_init 33 = .ok (.iconst 3, 1) := by decide +kernel
theorem dX7_init_34 : decode cX7_init 34 = .ok (.iconst 3, 1) := by decide +kernel
theorem dX7_init_35 : decode cX7_init 35 = .ok (.iastore, 1) := by decide +kernel
theorem dX7_init_36 : decode cX7_init 36 = .ok (.dup, 1) := by decide +kernel
theorem dX7_init_37 : decode cX7_init 37 = .ok (.iconst 4, 1) := by decide +kernel
theorem dX7_init_38 : decode cX7_init 38 = .ok (.iconst 3, 1) := by decide +kernel
theorem dX7_init_39 : decode cX7_init 39 = .ok (.iastore, 1) := by decide +kernel
theorem dX7_init_40 : decode cX7_init 40 = .ok (.dup, 1) := by decide +kernel
theorem dX7_init_41 : decode cX7_init 41 = .ok (.iconst 5, 1) := by decide +kernel
theorem dX7_init_42 : decode cX7_init 42 = .ok (.iconst 3, 1) := by decide +kernel
theorem dX7_init_43 : decode cX7_init 43 = .ok (.iastore, 1) := by decide +kernel
theorem dX7_init_44 : decode cX7_init 44 = .ok (.putfield 16, 3) := by decide +kernel
theorem dX7_init_47 : decode cX7_init 47 = .ok (.aload_n 0, 1) := by decide +kernel
theorem dX7_init_48 : decode cX7_init 48 = .ok (.new 20, 3) := by decide +kernel
theorem dX7_init_51 : decode cX7_init 51 = .ok (.dup, 1) := by decide +kernel
theorem dX7_init_52 : decode cX7_init 52 = .ok (.invokespecial 22, 3) := by decide +kernel
theorem dX7_init_55 : decode cX7_init 55 = .ok (.putfield 23, 3) := by decide +kernel
theorem dX7_init_58 : decode cX7_init 58 = .ok (.aload_n 0, 1) := by decide +kernel
theorem dX7_init_59 : decode cX7_init 59 = .ok (.new 27, 3) := by decide +kernel
theorem dX7_init_62 : decode cX7_init 62 = .ok (.dup, 1) := by decide +kernel
theorem dX7_init_63 : decode cX7_init 63 = .ok (.invokespecial 29, 3) := by decide +kernel
theorem dX7_init_66 : decode cX7_init 66 = .ok (.putfield 30, 3) := by decide +kernel
theorem dX7_init_69 : decode cX7_init 69 = .ok (.aload_n 0, 1) := by decide +kernel
theorem dX7_init_70 : decode cX7_init 70 = .ok (.new 27, 3) := by decide +kernel
theorem dX7_init_73 : decode cX7_init 73 = .ok (.dup, 1) := by decide +kernel
theorem dX7_init_74 : decode cX7_init 74 = .ok (.invokespecial 29, 3) := by decide +kernel
theorem dX7_init_77 : decode cX7_init 77 = .ok (.putfield 34, 3) := by decide +kernel
theorem dX7_init_80 : decode cX7_init 80 = .ok (.aload_n 0, 1) := by decide +kernel
theorem dX7_init_81 : decode cX7_init 81 = .ok (.new 37, 3) := by decide +kernel
theorem dX7_init_84 : decode cX7_init 84 = .ok (.dup, 1) := by decide +kernel
theorem dX7_init_85 : decode cX7_init 85 = .ok (.invokespecial 39, 3) := by decide +kernel
theorem dX7_init_88 : decode cX7_init 88 = .ok (.putfield 40, 3) := by decide +kernel
theorem dX7_init_91 : decode cX7_init 91 = .ok (.aload_n 0, 1) := by decide +kernel
theorem dX7_init_92 : decode cX7_init 92 = .ok (.new 44, 3) := by decide +kernel
theorem dX7_init_95 : decode cX7_init 95 = .ok (.dup, 1) := by decide +kernel
theorem dX7_init_96 : decode cX7_init 96 = .ok (.invokespecial 46, 3) := by decide +kernel
theorem dX7_init_99 : decode cX7_init 99 = .ok (.putfield 47, 3) := by decide +kernel
theorem dX7_init_102 : decode cX7_init 102 = .ok (.aload_n 0, 1) := by decide +kernel
theorem dX7_init_103 : decode cX7_init 103 = .ok (.new 51, 3) := by decide +kernel
theorem dX7_init_106 : decode cX7_init 106 = .ok (.dup, 1) := by decide +kernel
theorem dX7_init_107 : decode cX7_init 107 = .ok (.invokespecial 53, 3) := by decide +kernel
theorem dX7_init_110 : decode cX7_init 110 = .ok (.putfield 54, 3) := by decide +kernel
theorem dX7_init_113 : decode cX7_init 113 = .ok (.aload_n 0, 1) := by decide +kernel
theorem dX7_init_114 : decode cX7_init 114 = .ok (.new 58, 3) := by decide +kernel
theorem dX7_init_117 : decode cX7_init 117 = .ok (.dup, 1) := by decide +kernel
theorem dX7_init_118 : decode cX7_init 118 = .ok (.invokespecial 60, 3) := by decide +kernel
theorem dX7_init_121 : decode cX7_init 121 = .ok (.putfield 61, 3) := by decide +kernel
theorem dX7_init_124 : decode cX7_init 124 = .ok (.aload_n 0, 1) := by decide +kernel
theorem dX7_init_125 : decode cX7_init 125 = .ok (.iconst 1, 1) := by decide +kernel
theorem dX7_init_126 : decode cX7_init 126 = .ok (.putfield 65, 3) := by decide +kernel
theorem dX7_init_129 : decode cX7_init 129 = .ok (.aload_n 0, 1) := by decide +kernel
theorem dX7_init_130 : decode cX7_init 130 = .ok (.iconst 0, 1) := by decide +kernel
theorem dX7_init_131 : decode cX7_init 131 = .ok (.putfield 69, 3) := by decide +kernel
theorem dX7_init_134 : decode cX7_init 134 = .ok (.aload_n 0, 1) := by decide +kernel
theorem dX7_init_135 : decode cX7_init 135 = .ok (.iconst 0, 1) := by decide +kernel
theorem dX7_init_136 : decode cX7_init 136 = .ok (.putfield 72, 3) := by decide +kernel
theorem dX7_init_139 : decode cX7_init 139 = .ok (.aload_n 0, 1) := by decide +kernel
theorem dX7_init_140 : decode cX7_init 140 = .ok (.iconst 0, 1) := by decide +kernel
theorem dX7_init_141 : decode cX7_init 141 = .ok (.putfield 75, 3) := by decide +kernel
theorem dX7_init_144 : decode cX7_init 144 = .ok (.return_, 1) := by decide +kernel
theorem dX7_setState_0 : decode cX7_setState 0 = .ok (.iload_n 1, 1) := by decide +kernel
theorem dX7_setState_1 : decode cX7_setState 1 = .ok (.iconst 1, 1) := by decide +kernel
theorem dX7_setState_2 : decode cX7_setState 2 = .ok (.iconst 3, 1) := by decide +kernel
theorem dX7_setState_3 : decode cX7_setState 3 = .ok (.invokestatic 78, 3) := by decide +kernel
theorem dX7_setState_6 : decode cX7_setState 6 = .ok (.ifCond .eq 36, 3) := by decide +kernel
theorem dX7_setState_9 : decode cX7_setState 9 = .ok (.iload_n 2, 1) := by decide +kernel
theorem dX7_setState_10 : decode cX7_setState 10 = .ok (.iconst 0, 1) := by decide +kernel
theorem dX7_setState_11 : decode cX7_setState 11 = .ok (.sipush 1000, 3) := by decide +kernel
theorem dX7_setState_14 : decode cX7_setState 14 = .ok (.invokestatic 78, 3) := by decide +kernel
theorem dX7_setState_17 : decode cX7_setState 17 = .ok (.ifCond .eq 25, 3) := by decide +kernel
theorem dX7_setState_20 : decode cX7_setState 20 = .ok (.iload_n 3, 1) := by decide +kernel
theorem dX7_setState_21 : decode cX7_setState 21 = .ok (.iconst 0, 1) := by decide +kernel
theorem dX7_setState_22 : decode cX7_setState 22 = .ok (.sipush 10000, 3) := by decide +kernel
theorem dX7_setState_25 : decode cX7_setState 25 = .ok (.invokestatic 78, 3) := by decide +kernel
theorem dX7_setState_28 : decode cX7_setState 28 = .ok (.ifCond .eq 14, 3) := by decide +kernel
theorem dX7_setState_31 : decode cX7_setState 31 = .ok (.iload 4, 2) := by decide +kernel
theorem dX7_setState_33 : decode cX7_setState 33 = .ok (.iconst 0, 1) := by decide +kernel
theorem dX7_setState_34 : decode cX7_setState 34 = .ok (.bipush 100, 2) := by decide +kernel
theorem dX7_setState_36 : decode cX7_setState 36 = .ok (.invokestatic 78, 3) := by decide +kernel
theorem dX7_setState_39 : decode cX7_setState 39 = .ok (.ifCond .ne 13, 3) := by decide +kernel
theorem dX7_setState_42 : decode cX7_setState 42 = .ok (.new 82, 3) := by decide +kernel
theorem dX7_setState_45 : decode cX7_setState 45 = .ok (.dup, 1) := by decide +kernel
theorem dX7_setState_46 : decode cX7_setState 46 = .ok (.ldc 84, 2) := by decide +kernel
theorem dX7_setState_48 : decode cX7_setState 48 = .ok (.invokespecial 86, 3) := by decide +kernel
theorem dX7_setState_51 : decode cX7_setState 51 = .ok (.athrow, 1) := by decide +kernel
theorem dX7_setState_52 : decode cX7_setState 52 = .ok (.aload_n 0, 1) := by decide +kernel
theorem dX7_setState_53 : decode cX7_setState 53 = .ok (.invokevirtual 89, 3) := by decide +kernel
theorem dX7_setState_56 : decode cX7_setState 56 = .ok (.aload_n 0, 1) := by decide +kernel
theorem dX7_setState_57 : decode cX7_setState 57 = .ok (.getfield 10, 3) := by decide +kernel
theorem dX7_setState_60 : decode cX7_setState 60 = .ok (.iload_n 1, 1) := by decide +kernel
theorem dX7_setState_61 : decode cX7_setState 61 = .ok (.iload_n 2, 1) := by decide +kernel
theorem dX7_setState_62 : decode cX7_setState 62 = .ok (.iload_n 3, 1) := by decide +kernel
theorem dX7_setState_63 : decode cX7_setState 63 = .ok (.iload 4, 2) := by decide +kernel
theorem dX7_setState_65 : decode cX7_setState 65 = .ok (.invokevirtual 92, 3) := by decide +kernel
theorem dX7_setState_68 : decode cX7_setState 68 = .ok (.return_, 1) := by decide +kernel
theorem dX7_setAwake_0 : decode cX7_setAwake 0 = .ok (.iload_n 1, 1) := by decide +kernel
theorem dX7_setAwake_1 : decode cX7_setAwake 1 = .ok (.iconst 0, 1) := by decide +kernel
theorem dX7_setAwake_2 : decode cX7_setAwake 2 = .ok (.sipush 1000, 3) := by decide +kernel
theorem dX7_setAwake_5 : decode cX7_setAwake 5 = .ok (.invokestatic 78, 3) := by decide +kernel
theorem dX7_setAwake_8 : decode cX7_setAwake 8 = .ok (.ifCond .ne 13, 3) := by decide +kernel
theorem dX7_setAwake_11 : decode cX7_setAwake 11 = .ok (.new 82, 3) := by decide +kernel
theorem dX7_setAwake_14 : decode cX7_setAwake 14 = .ok (.dup, 1) := by decide +kernel
theorem dX7_setAwake_15 : decode cX7_setAwake 15 = .ok (.ldc 96, 2) := by decide +kernel
theorem dX7_setAwake_17 : decode cX7_setAwake 17 = .ok (.invokespecial 86, 3) := by decide +kernel
theorem dX7_setAwake_20 : decode cX7_setAwake 20 = .ok (.athrow, 1) := by decide +kernel
theorem dX7_setAwake_21 : decode cX7_setAwake 21 = .ok (.aload_n 0, 1) := by decide +kernel
theorem dX7_setAwake_22 : decode cX7_setAwake 22 = .ok (.invokevirtual 89, 3) := by decide +kernel
theorem dX7_setAwake_25 : decode cX7_setAwake 25 = .ok (.aload_n 0, 1) := by decide +kernel
theorem dX7_setAwake_26 : decode cX7_setAwake 26 = .ok (.getfield 10, 3) := by decide +kernel
theorem dX7_setAwake_29 : decode cX7_setAwake 29 = .ok (.iconst 0, 1) := by decide +kernel
theorem dX7_setAwake_30 : decode cX7_setAwake 30 = .ok (.invokevirtual 98, 3) := by decide +kernel
theorem dX7_setAwake_33 : decode cX7_setAwake 33 = .ok (.istore_n 2, 1) := by decide +kernel
theorem dX7_setAwake_34 : decode cX7_setAwake 34 = .ok (.aload_n 0, 1) := by decide +kernel
theorem dX7_setAwake_35 : decode cX7_setAwake 35 = .ok (.getfield 10, 3) := by decide +kernel
theorem dX7_setAwake_38 : decode cX7_setAwake 38 = .ok (.iconst 0, 1) := by decide +kernel
theorem dX7_setAwake_39 : decode cX7_setAwake 39 = .ok (.iload_n 1, 1) := by decide +kernel
theorem dX7_setAwake_40 : decode cX7_setAwake 40 = .ok (.iconst 0, 1) := by decide +kernel
theorem dX7_setAwake_41 : decode cX7_setAwake 41 = .ok (.iconst 0, 1) := by decide +kernel
theorem dX7_setAwake_42 : decode cX7_setAwake 42 = .ok (.invokevirtual 92, 3) := by decide +kernel
theorem dX7_setAwake_45 : decode cX7_setAwake 45 = .ok (.iload_n 2, 1) := by decide +kernel
theorem dX7_setAwake_46 : decode cX7_setAwake 46 = .ok (.ireturn, 1) := by decide +kernel
theorem dX7_vote_0 : decode cX7_vote 0 = .ok (.iload_n 1, 1) := by decide +kernel
theorem dX7_vote_1 : decode cX7_vote 1 = .ok (.iconst 0, 1) := by decide +kernel
theorem dX7_vote_2 : decode cX7_vote 2 = .ok (.iconst 5, 1) := by decide +kernel
theorem dX7_vote_3 : decode cX7_vote 3 = .ok (.invokestatic 78, 3) := by decide +kernel
theorem dX7_vote_6 : decode cX7_vote 6 = .ok (.ifCond .eq 12, 3) := by decide +kernel
theorem dX7_vote_9 : decode cX7_vote 9 = .ok (.iload_n 2, 1) := by decide +kernel
theorem dX7_vote_10 : decode cX7_vote 10 = .ok (.iconst 0, 1) := by decide +kernel
theorem dX7_vote_11 : decode cX7_vote 11 = .ok (.iconst 3, 1) := by decide +kernel
theorem dX7_vote_12 : decode cX7_vote 12 = .ok (.invokestatic 78, 3) := by decide +kernel
theorem dX7_vote_15 : decode cX7_vote 15 = .ok (.ifCond .ne 13, 3) := by decide +kernel
theorem dX7_vote_18 : decode cX7_vote 18 = .ok (.new 82, 3) := by decide +kernel
theorem dX7_vote_21 : decode cX7_vote 21 = .ok (.dup, 1) := by decide +kernel
theorem dX7_vote_22 : decode cX7_vote 22 = .ok (.ldc 102, 2) := by decide +kernel
theorem dX7_vote_24 : decode cX7_vote 24 = .ok (.invokespecial 86, 3) := by decide +kernel
theorem dX7_vote_27 : decode cX7_vote 27 = .ok (.athrow, 1) := by decide +kernel
theorem dX7_vote_28 : decode cX7_vote 28 = .ok (.aload_n 0, 1) := by decide +kernel
theorem dX7_vote_29 : decode cX7_vote 29 = .ok (.invokevirtual 89, 3) := by decide +kernel
theorem dX7_vote_32 : decode cX7_vote 32 = .ok (.aload_n 0, 1) := by decide +kernel
theorem dX7_vote_33 : decode cX7_vote 33 = .ok (.getfield 16, 3) := by decide +kernel
theorem dX7_vote_36 : decode cX7_vote 36 = .ok (.iload_n 1, 1) := by decide +kernel
theorem dX7_vote_37 : decode cX7_vote 37 = .ok (.iload_n 2, 1) := by decide +kernel
theorem dX7_vote_38 : decode cX7_vote 38 = .ok (.invokestatic 104, 3) := by decide +kernel
theorem dX7_vote_41 : decode cX7_vote 41 = .ok (.ireturn, 1) := by decide +kernel
theorem dX7_addClock_0 : decode cX7_addClock 0 = .ok (.aload_n 0, 1) := by decide +kernel
theorem dX7_addClock_1 : decode cX7_addClock 1 = .ok (.getfield 23, 3) := by decide +kernel
theorem dX7_addClock_4 : decode cX7_addClock 4 = .ok (.iload_n 1, 1) := by decide +kernel
theorem dX7_addClock_5 : decode cX7_addClock 5 = .ok (.invokevirtual 108, 3) := by decide +kernel
theorem dX7_addClock_8 : decode cX7_addClock 8 = .ok (.ifCond .ne 13, 3) := by decide +kernel
theorem dX7_addClock_11 : decode cX7_addClock 11 = .ok (.new 112, 3) := by decide +kernel
theorem dX7_addClock_14 : decode cX7_addClock 14 = .ok (.dup, 1) := by decide +kernel
theorem dX7_addClock_15 : decode cX7_addClock 15 = .ok (.ldc 114, 2) := by decide +kernel
theorem dX7_addClock_17 : decode cX7_addClock 17 = .ok (.invokespecial 116, 3) := by decide +kernel
theorem dX7_addClock_20 : decode cX7_addClock 20 = .ok (.athrow, 1) := by decide +kernel
theorem dX7_addClock_21 : decode cX7_addClock 21 = .ok (.iload_n 2, 1) := by decide +kernel
theorem dX7_addClock_22 : decode cX7_addClock 22 = .ok (.iconst 1, 1) := by decide +kernel
theorem dX7_addClock_23 : decode cX7_addClock 23 = .ok (.bipush 64, 2) := by decide +kernel
theorem dX7_addClock_25 : decode cX7_addClock 25 = .ok (.invokestatic 78, 3) := by decide +kernel
theorem dX7_addClock_28 : decode cX7_addClock 28 = .ok (.ifCond .eq 12, 3) := by decide +kernel
theorem dX7_addClock_31 : decode cX7_addClock 31 = .ok (.iload_n 3, 1) := by decide +kernel
theorem dX7_addClock_32 : decode cX7_addClock 32 = .ok (.iconst 0, 1) := by decide +kernel
theorem dX7_addClock_33 : decode cX7_addClock 33 = .ok (.iconst 3, 1) := by decide +kernel
theorem dX7_addClock_34 : decode cX7_addClock 34 = .ok (.invokestatic 78, 3) := by decide +kernel
theorem dX7_addClock_37 : decode cX7_addClock 37 = .ok (.ifCond .ne 13, 3) := by decide +kernel
theorem dX7_addClock_40 : decode cX7_addClock 40 = .ok (.new 82, 3) := by decide +kernel
theorem dX7_addClock_43 : decode cX7_addClock 43 = .ok (.dup, 1) := by decide +kernel
theorem dX7_addClock_44 : decode cX7_addClock 44 = .ok (.ldc 117, 2) := by decide +kernel
theorem dX7_addClock_46 : decode cX7_addClock 46 = .ok (.invokespecial 86, 3) := by decide +kernel
theorem dX7_addClock_49 : decode cX7_addClock 49 = .ok (.athrow, 1) := by decide +kernel
theorem dX7_addClock_50 : decode cX7_addClock 50 = .ok (.aload_n 0, 1) := by decide +kernel
theorem dX7_addClock_51 : decode cX7_addClock 51 = .ok (.getfield 23, 3) := by decide +kernel
theorem dX7_addClock_54 : decode cX7_addClock 54 = .ok (.invokevirtual 119, 3) := by decide +kernel
theorem dX7_addClock_57 : decode cX7_addClock 57 = .ok (.ifCond .eq 13, 3) := by decide +kernel
theorem dX7_addClock_60 : decode cX7_addClock 60 = .ok (.new 123, 3) := by decide +kernel
theorem dX7_addClock_63 : decode cX7_addClock 63 = .ok (.dup, 1) := by decide +kernel
theorem dX7_addClock_64 : decode cX7_addClock 64 = .ok (.ldc 125, 2) := by decide +kernel
theorem dX7_addClock_66 : decode cX7_addClock 66 = .ok (.invokespecial 127, 3) := by decide +kernel
theorem dX7_addClock_69 : decode cX7_addClock 69 = .ok (.athrow, 1) := by decide +kernel
theorem dX7_addClock_70 : decode cX7_addClock 70 = .ok (.aload_n 0, 1) := by decide +kernel
theorem dX7_addClock_71 : decode cX7_addClock 71 = .ok (.invokevirtual 89, 3) := by decide +kernel
theorem dX7_addClock_74 : decode cX7_addClock 74 = .ok (.aload_n 0, 1) := by decide +kernel
theorem dX7_addClock_75 : decode cX7_addClock 75 = .ok (.getfield 23, 3) := by decide +kernel
theorem dX7_addClock_78 : decode cX7_addClock 78 = .ok (.iload_n 1, 1) := by decide +kernel
theorem dX7_addClock_79 : decode cX7_addClock 79 = .ok (.iload_n 2, 1) := by decide +kernel
theorem dX7_addClock_80 : decode cX7_addClock 80 = .ok (.iload_n 3, 1) := by decide +kernel
theorem dX7_addClock_81 : decode cX7_addClock 81 = .ok (.invokevirtual 128, 3) := by decide +kernel
theorem dX7_addClock_84 : decode cX7_addClock 84 = .ok (.ireturn, 1) := by decide +kernel
theorem dX7_use_0 : decode cX7_use 0 = .ok (.aload_n 0, 1) := by decide +kernel
theorem dX7_use_1 : decode cX7_use 1 = .ok (.getfield 23, 3) := by decide +kernel
theorem dX7_use_4 : decode cX7_use 4 = .ok (.iload_n 1, 1) := by decide +kernel
theorem dX7_use_5 : decode cX7_use 5 = .ok (.invokevirtual 108, 3) := by decide +kernel
theorem dX7_use_8 : decode cX7_use 8 = .ok (.ifCond .ne 13, 3) := by decide +kernel
theorem dX7_use_11 : decode cX7_use 11 = .ok (.new 112, 3) := by decide +kernel
theorem dX7_use_14 : decode cX7_use 14 = .ok (.dup, 1) := by decide +kernel
theorem dX7_use_15 : decode cX7_use 15 = .ok (.ldc 132, 2) := by decide +kernel
theorem dX7_use_17 : decode cX7_use 17 = .ok (.invokespecial 116, 3) := by decide +kernel
theorem dX7_use_20 : decode cX7_use 20 = .ok (.athrow, 1) := by decide +kernel
theorem dX7_use_21 : decode cX7_use 21 = .ok (.aload_n 0, 1) := by decide +kernel
theorem dX7_use_22 : decode cX7_use 22 = .ok (.getfield 23, 3) := by decide +kernel
theorem dX7_use_25 : decode cX7_use 25 = .ok (.iload_n 1, 1) := by decide +kernel
theorem dX7_use_26 : decode cX7_use 26 = .ok (.invokevirtual 134, 3) := by decide +kernel
theorem dX7_use_29 : decode cX7_use 29 = .ok (.bipush 9, 2) := by decide +kernel
theorem dX7_use_31 : decode cX7_use 31 = .ok (.if_icmp .lt 13, 3) := by decide +kernel
theorem dX7_use_34 : decode cX7_use 34 = .ok (.new 123, 3) := by decide +kernel
theorem dX7_use_37 : decode cX7_use 37 = .ok (.dup, 1) := by decide +kernel
theorem dX7_use_38 : decode cX7_use 38 = .ok (.ldc 137, 2) := by decide +kernel
theorem dX7_use_40 : decode cX7_use 40 = .ok (.invokespecial 127, 3) := by decide +kernel
theorem dX7_use_43 : decode cX7_use 43 = .ok (.athrow, 1) := by decide +kernel
theorem dX7_use_44 : decode cX7_use 44 = .ok (.aload_n 0, 1) := by decide +kernel
theorem dX7_use_45 : decode cX7_use 45 = .ok (.invokevirtual 89, 3) := by decide +kernel
theorem dX7_use_48 : decode cX7_use 48 = .ok (.aload_n 0, 1) := by decide +kernel
theorem dX7_use_49 : decode cX7_use 49 = .ok (.getfield 23, 3) := by decide +kernel
theorem dX7_use_52 : decode cX7_use 52 = .ok (.iload_n 1, 1) := by decide +kernel
theorem dX7_use_53 : decode cX7_use 53 = .ok (.iconst 1, 1) := by decide +kernel
theorem dX7_use_54 : decode cX7_use 54 = .ok (.invokevirtual 139, 3) := by decide +kernel
theorem dX7_use_57 : decode cX7_use 57 = .ok (.ireturn, 1) := by decide +kernel
theorem dX7_release_0 : decode cX7_release 0 = .ok (.aload_n 0, 1) := by decide +kernel
theorem dX7_release_1 : decode cX7_release 1 = .ok (.getfield 23, 3) := by decide +kernel
theorem dX7_release_4 : decode cX7_release 4 = .ok (.iload_n 1, 1) := by decide +kernel
theorem dX7_release_5 : decode cX7_release 5 = .ok (.invokevirtual 108, 3) := by decide +kernel
theorem dX7_release_8 : decode cX7_release 8 = .ok (.ifCond .ne 13, 3) := by decide +kernel
theorem dX7_release_11 : decode cX7_release 11 = .ok (.new 112, 3) := by decide +kernel
theorem dX7_release_14 : decode cX7_release 14 = .ok (.dup, 1) := by decide +kernel
theorem dX7_release_15 : decode cX7_release 15 = .ok (.ldc 132, 2) := by decide +kernel
theorem dX7_release_17 : decode cX7_release 17 = .ok (.invokespecial 116, 3) := by decide +kernel
theorem dX7_release_20 : decode cX7_release 20 = .ok (.athrow, 1) := by decide +kernel
theorem dX7_release_21 : decode cX7_release 21 = .ok (.aload_n 0, 1) := by decide +kernel
theorem dX7_release_22 : decode cX7_release 22 = .ok (.getfield 23, 3) := by decide +kernel
theorem dX7_release_25 : decode cX7_release 25 = .ok (.iload_n 1, 1) := by decide +kernel
theorem dX7_release_26 : decode cX7_release 26 = .ok (.invokevirtual 134, 3) := by decide +kernel
theorem dX7_release_29 : decode cX7_release 29 = .ok (.ifCond .gt 13, 3) := by decide +kernel
theorem dX7_release_32 : decode cX7_release 32 = .ok (.new 123, 3) := by decide +kernel
theorem dX7_release_35 : decode cX7_release 35 = .ok (.dup, 1) := by decide +kernel
theorem dX7_release_36 : decode cX7_release 36 = .ok (.ldc 143, 2) := by decide +kernel
theorem dX7_release_38 : decode cX7_release 38 = .ok (.invokespecial 127, 3) := by decide +kernel
theorem dX7_release_41 : decode cX7_release 41 = .ok (.athrow, 1) := by decide +kernel
theorem dX7_release_42 : decode cX7_release 42 = .ok (.aload_n 0, 1) := by decide +kernel
theorem dX7_release_43 : decode cX7_release 43 = .ok (.invokevirtual 89, 3) := by decide +kernel
theorem dX7_release_46 : decode cX7_release 46 = .ok (.aload_n 0, 1) := by decide +kernel
theorem dX7_release_47 : decode cX7_release 47 = .ok (.getfield 23, 3) := by decide +kernel
theorem dX7_release_50 : decode cX7_release 50 = .ok (.iload_n 1, 1) := by decide +kernel
theorem dX7_release_51 : decode cX7_release 51 = .ok (.iconst (-1), 1) := by decide +kernel
theorem dX7_release_52 : decode cX7_release 52 = .ok (.invokevirtual 139, 3) := by decide +kernel
theorem dX7_release_55 : decode cX7_release 55 = .ok (.ireturn, 1) := by decide +kernel
theorem dX7_runs_0 : decode cX7_runs 0 = .ok (.aload_n 0, 1) := by decide +kernel
theorem dX7_runs_1 : decode cX7_runs 1 = .ok (.getfield 23, 3) := by decide +kernel
theorem dX7_runs_4 : decode cX7_runs 4 = .ok (.iload_n 1, 1) := by decide +kernel
theorem dX7_runs_5 : decode cX7_runs 5 = .ok (.invokevirtual 108, 3) := by decide +kernel
theorem dX7_runs_8 : decode cX7_runs 8 = .ok (.ifCond .ne 13, 3) := by decide +kernel
theorem dX7_runs_11 : decode cX7_runs 11 = .ok (.new 112, 3) := by decide +kernel
theorem dX7_runs_14 : decode cX7_runs 14 = .ok (.dup, 1) := by decide +kernel
theorem dX7_runs_15 : decode cX7_runs 15 = .ok (.ldc 132, 2) := by decide +kernel
theorem dX7_runs_17 : decode cX7_runs 17 = .ok (.invokespecial 116, 3) := by decide +kernel
theorem dX7_runs_20 : decode cX7_runs 20 = .ok (.athrow, 1) := by decide +kernel
theorem dX7_runs_21 : decode cX7_runs 21 = .ok (.aload_n 0, 1) := by decide +kernel
theorem dX7_runs_22 : decode cX7_runs 22 = .ok (.getfield 23, 3) := by decide +kernel
theorem dX7_runs_25 : decode cX7_runs 25 = .ok (.iload_n 1, 1) := by decide +kernel
theorem dX7_runs_26 : decode cX7_runs 26 = .ok (.invokevirtual 145, 3) := by decide +kernel
theorem dX7_runs_29 : decode cX7_runs 29 = .ok (.ireturn, 1) := by decide +kernel
theorem dX7_depth_0 : decode cX7_depth 0 = .ok (.aload_n 0, 1) := by decide +kernel
theorem dX7_depth_1 : decode cX7_depth 1 = .ok (.getfield 23, 3) := by decide +kernel
theorem dX7_depth_4 : decode cX7_depth 4 = .ok (.invokevirtual 151, 3) := by decide +kernel
theorem dX7_depth_7 : decode cX7_depth 7 = .ok (.istore_n 1, 1) := by decide +kernel
theorem dX7_depth_8 : decode cX7_depth 8 = .ok (.iconst 0, 1) := by decide +kernel
theorem dX7_depth_9 : decode cX7_depth 9 = .ok (.istore_n 2, 1) := by decide +kernel
theorem dX7_depth_10 : decode cX7_depth 10 = .ok (.iload_n 2, 1) := by decide +kernel
theorem dX7_depth_11 : decode cX7_depth 11 = .ok (.aload_n 0, 1) := by decide +kernel
theorem dX7_depth_12 : decode cX7_depth 12 = .ok (.getfield 16, 3) := by decide +kernel
theorem dX7_depth_15 : decode cX7_depth 15 = .ok (.arraylength, 1) := by decide +kernel
theorem dX7_depth_16 : decode cX7_depth 16 = .ok (.if_icmp .ge 20, 3) := by decide +kernel
theorem dX7_depth_19 : decode cX7_depth 19 = .ok (.iload_n 1, 1) := by decide +kernel
theorem dX7_depth_20 : decode cX7_depth 20 = .ok (.aload_n 0, 1) := by decide +kernel
theorem dX7_depth_21 : decode cX7_depth 21 = .ok (.getfield 16, 3) := by decide +kernel
theorem dX7_depth_24 : decode cX7_depth 24 = .ok (.iload_n 2, 1) := by decide +kernel
theorem dX7_depth_25 : decode cX7_depth 25 = .ok (.iaload, 1) := by decide +kernel
theorem dX7_depth_26 : decode cX7_depth 26 = .ok (.invokestatic 155, 3) := by decide +kernel
theorem dX7_depth_29 : decode cX7_depth 29 = .ok (.istore_n 1, 1) := by decide +kernel
theorem dX7_depth_30 : decode cX7_depth 30 = .ok (.iinc 2 1, 3) := by decide +kernel
theorem dX7_depth_33 : decode cX7_depth 33 = .ok (.goto (-23), 3) := by decide +kernel
theorem dX7_depth_36 : decode cX7_depth 36 = .ok (.iload_n 1, 1) := by decide +kernel
theorem dX7_depth_37 : decode cX7_depth 37 = .ok (.ireturn, 1) := by decide +kernel
theorem dX7_breakEven_0 : decode cX7_breakEven 0 = .ok (.iload_n 1, 1) := by decide +kernel
theorem dX7_breakEven_1 : decode cX7_breakEven 1 = .ok (.iconst 1, 1) := by decide +kernel
theorem dX7_breakEven_2 : decode cX7_breakEven 2 = .ok (.iconst 3, 1) := by decide +kernel
theorem dX7_breakEven_3 : decode cX7_breakEven 3 = .ok (.invokestatic 78, 3) := by decide +kernel
theorem dX7_breakEven_6 : decode cX7_breakEven 6 = .ok (.ifCond .ne 13, 3) := by decide +kernel
theorem dX7_breakEven_9 : decode cX7_breakEven 9 = .ok (.new 82, 3) := by decide +kernel
theorem dX7_breakEven_12 : decode cX7_breakEven 12 = .ok (.dup, 1) := by decide +kernel
theorem dX7_breakEven_13 : decode cX7_breakEven 13 = .ok (.ldc 160, 2) := by decide +kernel
theorem dX7_breakEven_15 : decode cX7_breakEven 15 = .ok (.invokespecial 86, 3) := by decide +kernel
theorem dX7_breakEven_18 : decode cX7_breakEven 18 = .ok (.athrow, 1) := by decide +kernel
theorem dX7_breakEven_19 : decode cX7_breakEven 19 = .ok (.aload_n 0, 1) := by decide +kernel
theorem dX7_breakEven_20 : decode cX7_breakEven 20 = .ok (.getfield 10, 3) := by decide +kernel
theorem dX7_breakEven_23 : decode cX7_breakEven 23 = .ok (.iload_n 1, 1) := by decide +kernel
theorem dX7_breakEven_24 : decode cX7_breakEven 24 = .ok (.invokevirtual 162, 3) := by decide +kernel
theorem dX7_breakEven_27 : decode cX7_breakEven 27 = .ok (.ireturn, 1) := by decide +kernel
theorem dX7_schedule_0 : decode cX7_schedule 0 = .ok (.iload_n 1, 1) := by decide +kernel
theorem dX7_schedule_1 : decode cX7_schedule 1 = .ok (.aload_n 0, 1) := by decide +kernel
theorem dX7_schedule_2 : decode cX7_schedule 2 = .ok (.getfield 69, 3) := by decide +kernel
theorem dX7_schedule_5 : decode cX7_schedule 5 = .ok (.aload_n 0, 1) := by decide +kernel
theorem dX7_schedule_6 : decode cX7_schedule 6 = .ok (.getfield 69, 3) := by decide +kernel
theorem dX7_schedule_9 : decode cX7_schedule 9 = .ok (.sipush 1000, 3) := by decide +kernel
theorem dX7_schedule_12 : decode cX7_schedule 12 = .ok (.iadd, 1) := by decide +kernel
theorem dX7_schedule_13 : decode cX7_schedule 13 = .ok (.invokestatic 78, 3) := by decide +kernel
theorem dX7_schedule_16 : decode cX7_schedule 16 = .ok (.ifCond .eq 24, 3) := by decide +kernel
theorem dX7_schedule_19 : decode cX7_schedule 19 = .ok (.iload_n 2, 1) := by decide +kernel
theorem dX7_schedule_20 : decode cX7_schedule 20 = .ok (.iconst 0, 1) := by decide +kernel
theorem dX7_schedule_21 : decode cX7_schedule 21 = .ok (.sipush 500, 3) := by decide +kernel
theorem dX7_schedule_24 : decode cX7_schedule 24 = .ok (.invokestatic 78, 3) := by decide +kernel
theorem dX7_schedule_27 : decode cX7_schedule 27 = .ok (.ifCond .eq 13, 3) := by decide +kernel
theorem dX7_schedule_30 : decode cX7_schedule 30 = .ok (.iload_n 3, 1) := by decide +kernel
theorem dX7_schedule_31 : decode cX7_schedule 31 = .ok (.iconst 1, 1) := by decide +kernel
theorem dX7_schedule_32 : decode cX7_schedule 32 = .ok (.bipush 50, 2) := by decide +kernel
theorem dX7_schedule_34 : decode cX7_schedule 34 = .ok (.invokestatic 78, 3) := by decide +kernel
theorem dX7_schedule_37 : decode cX7_schedule 37 = .ok (.ifCond .ne 13, 3) := by decide +kernel
theorem dX7_schedule_40 : decode cX7_schedule 40 = .ok (.new 82, 3) := by decide +kernel
theorem dX7_schedule_43 : decode cX7_schedule 43 = .ok (.dup, 1) := by decide +kernel
theorem dX7_schedule_44 : decode cX7_schedule 44 = .ok (.ldc 165, 2) := by decide +kernel
theorem dX7_schedule_46 : decode cX7_schedule 46 = .ok (.invokespecial 86, 3) := by decide +kernel
theorem dX7_schedule_49 : decode cX7_schedule 49 = .ok (.athrow, 1) := by decide +kernel
theorem dX7_schedule_50 : decode cX7_schedule 50 = .ok (.aload_n 0, 1) := by decide +kernel
theorem dX7_schedule_51 : decode cX7_schedule 51 = .ok (.getfield 30, 3) := by decide +kernel
theorem dX7_schedule_54 : decode cX7_schedule 54 = .ok (.invokevirtual 167, 3) := by decide +kernel
theorem dX7_schedule_57 : decode cX7_schedule 57 = .ok (.ifCond .eq 13, 3) := by decide +kernel
theorem dX7_schedule_60 : decode cX7_schedule 60 = .ok (.new 123, 3) := by decide +kernel
theorem dX7_schedule_63 : decode cX7_schedule 63 = .ok (.dup, 1) := by decide +kernel
theorem dX7_schedule_64 : decode cX7_schedule 64 = .ok (.ldc 168, 2) := by decide +kernel
theorem dX7_schedule_66 : decode cX7_schedule 66 = .ok (.invokespecial 127, 3) := by decide +kernel
theorem dX7_schedule_69 : decode cX7_schedule 69 = .ok (.athrow, 1) := by decide +kernel
theorem dX7_schedule_70 : decode cX7_schedule 70 = .ok (.aload_n 0, 1) := by decide +kernel
theorem dX7_schedule_71 : decode cX7_schedule 71 = .ok (.invokevirtual 89, 3) := by decide +kernel
theorem dX7_schedule_74 : decode cX7_schedule 74 = .ok (.aload_n 0, 1) := by decide +kernel
theorem dX7_schedule_75 : decode cX7_schedule 75 = .ok (.getfield 30, 3) := by decide +kernel
theorem dX7_schedule_78 : decode cX7_schedule 78 = .ok (.iload_n 1, 1) := by decide +kernel
theorem dX7_schedule_79 : decode cX7_schedule 79 = .ok (.iload_n 1, 1) := by decide +kernel
theorem dX7_schedule_80 : decode cX7_schedule 80 = .ok (.iload_n 2, 1) := by decide +kernel
theorem dX7_schedule_81 : decode cX7_schedule 81 = .ok (.iadd, 1) := by decide +kernel
theorem dX7_schedule_82 : decode cX7_schedule 82 = .ok (.iload_n 3, 1) := by decide +kernel
theorem dX7_schedule_83 : decode cX7_schedule 83 = .ok (.invokevirtual 170, 3) := by decide +kernel
theorem dX7_schedule_86 : decode cX7_schedule 86 = .ok (.ireturn, 1) := by decide +kernel
theorem dX7_addEvent_0 : decode cX7_addEvent 0 = .ok (.iload_n 1, 1) := by decide +kernel
theorem dX7_addEvent_1 : decode cX7_addEvent 1 = .ok (.aload_n 0, 1) := by decide +kernel
theorem dX7_addEvent_2 : decode cX7_addEvent 2 = .ok (.getfield 69, 3) := by decide +kernel
theorem dX7_addEvent_5 : decode cX7_addEvent 5 = .ok (.aload_n 0, 1) := by decide +kernel
theorem dX7_addEvent_6 : decode cX7_addEvent 6 = .ok (.getfield 69, 3) := by decide +kernel
theorem dX7_addEvent_9 : decode cX7_addEvent 9 = .ok (.sipush 1000, 3) := by decide +kernel
theorem dX7_addEvent_12 : decode cX7_addEvent 12 = .ok (.iadd, 1) := by decide +kernel
theorem dX7_addEvent_13 : decode cX7_addEvent 13 = .ok (.invokestatic 78, 3) := by decide +kernel
theorem dX7_addEvent_16 : decode cX7_addEvent 16 = .ok (.ifCond .eq 13, 3) := by decide +kernel
theorem dX7_addEvent_19 : decode cX7_addEvent 19 = .ok (.iload_n 2, 1) := by decide +kernel
theorem dX7_addEvent_20 : decode cX7_addEvent 20 = .ok (.iconst 1, 1) := by decide +kernel
theorem dX7_addEvent_21 : decode cX7_addEvent 21 = .ok (.bipush 50, 2) := by decide +kernel
theorem dX7_addEvent_23 : decode cX7_addEvent 23 = .ok (.invokestatic 78, 3) := by decide +kernel
theorem dX7_addEvent_26 : decode cX7_addEvent 26 = .ok (.ifCond .ne 13, 3) := by decide +kernel
theorem dX7_addEvent_29 : decode cX7_addEvent 29 = .ok (.new 82, 3) := by decide +kernel
theorem dX7_addEvent_32 : decode cX7_addEvent 32 = .ok (.dup, 1) := by decide +kernel
theorem dX7_addEvent_33 : decode cX7_addEvent 33 = .ok (.ldc 171, 2) := by decide +kernel
theorem dX7_addEvent_35 : decode cX7_addEvent 35 = .ok (.invokespecial 86, 3) := by decide +kernel
theorem dX7_addEvent_38 : decode cX7_addEvent 38 = .ok (.athrow, 1) := by decide +kernel
theorem dX7_addEvent_39 : decode cX7_addEvent 39 = .ok (.aload_n 0, 1) := by decide +kernel
theorem dX7_addEvent_40 : decode cX7_addEvent 40 = .ok (.getfield 34, 3) := by decide +kernel
theorem dX7_addEvent_43 : decode cX7_addEvent 43 = .ok (.invokevirtual 167, 3) := by decide +kernel
theorem dX7_addEvent_46 : decode cX7_addEvent 46 = .ok (.ifCond .eq 13, 3) := by decide +kernel
theorem dX7_addEvent_49 : decode cX7_addEvent 49 = .ok (.new 123, 3) := by decide +kernel
theorem dX7_addEvent_52 : decode cX7_addEvent 52 = .ok (.dup, 1) := by decide +kernel
theorem dX7_addEvent_53 : decode cX7_addEvent 53 = .ok (.ldc 173, 2) := by decide +kernel
theorem dX7_addEvent_55 : decode cX7_addEvent 55 = .ok (.invokespecial 127, 3) := by decide +kernel
theorem dX7_addEvent_58 : decode cX7_addEvent 58 = .ok (.athrow, 1) := by decide +kernel
theorem dX7_addEvent_59 : decode cX7_addEvent 59 = .ok (.aload_n 0, 1) := by decide +kernel
theorem dX7_addEvent_60 : decode cX7_addEvent 60 = .ok (.getfield 34, 3) := by decide +kernel
theorem dX7_addEvent_63 : decode cX7_addEvent 63 = .ok (.iload_n 1, 1) := by decide +kernel
theorem dX7_addEvent_64 : decode cX7_addEvent 64 = .ok (.iload_n 1, 1) := by decide +kernel
theorem dX7_addEvent_65 : decode cX7_addEvent 65 = .ok (.iload_n 2, 1) := by decide +kernel
theorem dX7_addEvent_66 : decode cX7_addEvent 66 = .ok (.invokevirtual 170, 3) := by decide +kernel
theorem dX7_addEvent_69 : decode cX7_addEvent 69 = .ok (.ireturn, 1) := by decide +kernel
theorem dX7_setRule_0 : decode cX7_setRule 0 = .ok (.iload_n 1, 1) := by decide +kernel
theorem dX7_setRule_1 : decode cX7_setRule 1 = .ok (.iconst 0, 1) := by decide +kernel
theorem dX7_setRule_2 : decode cX7_setRule 2 = .ok (.iconst 2, 1) := by decide +kernel
theorem dX7_setRule_3 : decode cX7_setRule 3 = .ok (.invokestatic 78, 3) := by decide +kernel
theorem dX7_setRule_6 : decode cX7_setRule 6 = .ok (.ifCond .ne 13, 3) := by decide +kernel
theorem dX7_setRule_9 : decode cX7_setRule 9 = .ok (.new 82, 3) := by decide +kernel
theorem dX7_setRule_12 : decode cX7_setRule 12 = .ok (.dup, 1) := by decide +kernel
theorem dX7_setRule_13 : decode cX7_setRule 13 = .ok (.ldc 175, 2) := by decide +kernel
theorem dX7_setRule_15 : decode cX7_setRule 15 = .ok (.invokespecial 86, 3) := by decide +kernel
theorem dX7_setRule_18 : decode cX7_setRule 18 = .ok (.athrow, 1) := by decide +kernel
theorem dX7_setRule_19 : decode cX7_setRule 19 = .ok (.aload_n 0, 1) := by decide +kernel
theorem dX7_setRule_20 : decode cX7_setRule 20 = .ok (.invokevirtual 89, 3) := by decide +kernel
theorem dX7_setRule_23 : decode cX7_setRule 23 = .ok (.aload_n 0, 1) := by decide +kernel
theorem dX7_setRule_24 : decode cX7_setRule 24 = .ok (.getfield 65, 3) := by decide +kernel
theorem dX7_setRule_27 : decode cX7_setRule 27 = .ok (.istore_n 2, 1) := by decide +kernel
theorem dX7_setRule_28 : decode cX7_setRule 28 = .ok (.aload_n 0, 1) := by decide +kernel
theorem dX7_setRule_29 : decode cX7_setRule 29 = .ok (.iload_n 1, 1) := by decide +kernel
theorem dX7_setRule_30 : decode cX7_setRule 30 = .ok (.putfield 65, 3) := by decide +kernel
theorem dX7_setRule_33 : decode cX7_setRule 33 = .ok (.iload_n 2, 1) := by decide +kernel
theorem dX7_setRule_34 : decode cX7_setRule 34 = .ok (.ireturn, 1) := by decide +kernel
theorem dX7_timers_0 : decode cX7_timers 0 = .ok (.aload_n 0, 1) := by decide +kernel
theorem dX7_timers_1 : decode cX7_timers 1 = .ok (.getfield 30, 3) := by decide +kernel
theorem dX7_timers_4 : decode cX7_timers 4 = .ok (.getfield 177, 3) := by decide +kernel
theorem dX7_timers_7 : decode cX7_timers 7 = .ok (.ireturn, 1) := by decide +kernel
theorem dX7_nextWakeup_0 : decode cX7_nextWakeup 0 = .ok (.aload_n 0, 1) := by decide +kernel
theorem dX7_nextWakeup_1 : decode cX7_nextWakeup 1 = .ok (.getfield 30, 3) := by decide +kernel
theorem dX7_nextWakeup_4 : decode cX7_nextWakeup 4 = .ok (.iconst (-1), 1) := by decide +kernel
theorem dX7_nextWakeup_5 : decode cX7_nextWakeup 5 = .ok (.ldc 180, 2) := by decide +kernel
theorem dX7_nextWakeup_7 : decode cX7_nextWakeup 7 = .ok (.invokevirtual 181, 3) := by decide +kernel
theorem dX7_nextWakeup_10 : decode cX7_nextWakeup 10 = .ok (.ireturn, 1) := by decide +kernel
theorem dX7_play_0 : decode cX7_play 0 = .ok (.iload_n 1, 1) := by decide +kernel
theorem dX7_play_1 : decode cX7_play 1 = .ok (.iconst 1, 1) := by decide +kernel
theorem dX7_play_2 : decode cX7_play 2 = .ok (.sipush 200, 3) := by decide +kernel
theorem dX7_play_5 : decode cX7_play 5 = .ok (.invokestatic 78, 3) := by decide +kernel
theorem dX7_play_8 : decode cX7_play 8 = .ok (.ifCond .ne 13, 3) := by decide +kernel
theorem dX7_play_11 : decode cX7_play 11 = .ok (.new 82, 3) := by decide +kernel
theorem dX7_play_14 : decode cX7_play 14 = .ok (.dup, 1) := by decide +kernel
theorem dX7_play_15 : decode cX7_play 15 = .ok (.ldc 184, 2) := by decide +kernel
theorem dX7_play_17 : decode cX7_play 17 = .ok (.invokespecial 86, 3) := by decide +kernel
theorem dX7_play_20 : decode cX7_play 20 = .ok (.athrow, 1) := by decide +kernel
theorem dX7_play_21 : decode cX7_play 21 = .ok (.iconst 0, 1) := by decide +kernel
theorem dX7_play_22 : decode cX7_play 22 = .ok (.istore_n 2, 1) := by decide +kernel
theorem dX7_play_23 : decode cX7_play 23 = .ok (.iload_n 2, 1) := by decide +kernel
theorem dX7_play_24 : decode cX7_play 24 = .ok (.iload_n 1, 1) := by decide +kernel
theorem dX7_play_25 : decode cX7_play 25 = .ok (.if_icmp .ge 13, 3) := by decide +kernel
theorem dX7_play_28 : decode cX7_play 28 = .ok (.aload_n 0, 1) := by decide +kernel
theorem dX7_play_29 : decode cX7_play 29 = .ok (.invokevirtual 186, 3) := by decide +kernel
theorem dX7_play_32 : decode cX7_play 32 = .ok (.iinc 2 1, 3) := by decide +kernel
theorem dX7_play_35 : decode cX7_play 35 = .ok (.goto (-12), 3) := by decide +kernel
theorem dX7_play_38 : decode cX7_play 38 = .ok (.aload_n 0, 1) := by decide +kernel
theorem dX7_play_39 : decode cX7_play 39 = .ok (.getfield 69, 3) := by decide +kernel
theorem dX7_play_42 : decode cX7_play 42 = .ok (.ireturn, 1) := by decide +kernel
theorem dX7_now_0 : decode cX7_now 0 = .ok (.aload_n 0, 1) := by decide +kernel
theorem dX7_now_1 : decode cX7_now 1 = .ok (.getfield 69, 3) := by decide +kernel
theorem dX7_now_4 : decode cX7_now 4 = .ok (.ireturn, 1) := by decide +kernel
theorem dX7_state_0 : decode cX7_state 0 = .ok (.aload_n 0, 1) := by decide +kernel
theorem dX7_state_1 : decode cX7_state 1 = .ok (.getfield 72, 3) := by decide +kernel
theorem dX7_state_4 : decode cX7_state 4 = .ok (.ireturn, 1) := by decide +kernel
theorem dX7_spent_0 : decode cX7_spent 0 = .ok (.aload_n 0, 1) := by decide +kernel
theorem dX7_spent_1 : decode cX7_spent 1 = .ok (.getfield 47, 3) := by decide +kernel
theorem dX7_spent_4 : decode cX7_spent 4 = .ok (.getfield 189, 3) := by decide +kernel
theorem dX7_spent_7 : decode cX7_spent 7 = .ok (.lreturn, 1) := by decide +kernel
theorem dX7_ticksIn_0 : decode cX7_ticksIn 0 = .ok (.iload_n 1, 1) := by decide +kernel
theorem dX7_ticksIn_1 : decode cX7_ticksIn 1 = .ok (.iconst 0, 1) := by decide +kernel
theorem dX7_ticksIn_2 : decode cX7_ticksIn 2 = .ok (.iconst 3, 1) := by decide +kernel
theorem dX7_ticksIn_3 : decode cX7_ticksIn 3 = .ok (.invokestatic 78, 3) := by decide +kernel
theorem dX7_ticksIn_6 : decode cX7_ticksIn 6 = .ok (.ifCond .ne 13, 3) := by decide +kernel
theorem dX7_ticksIn_9 : decode cX7_ticksIn 9 = .ok (.new 82, 3) := by decide +kernel
theorem dX7_ticksIn_12 : decode cX7_ticksIn 12 = .ok (.dup, 1) := by decide +kernel
theorem dX7_ticksIn_13 : decode cX7_ticksIn 13 = .ok (.ldc 160, 2) := by decide +kernel
theorem dX7_ticksIn_15 : decode cX7_ticksIn 15 = .ok (.invokespecial 86, 3) := by decide +kernel
theorem dX7_ticksIn_18 : decode cX7_ticksIn 18 = .ok (.athrow, 1) := by decide +kernel
theorem dX7_ticksIn_19 : decode cX7_ticksIn 19 = .ok (.aload_n 0, 1) := by decide +kernel
theorem dX7_ticksIn_20 : decode cX7_ticksIn 20 = .ok (.getfield 47, 3) := by decide +kernel
theorem dX7_ticksIn_23 : decode cX7_ticksIn 23 = .ok (.getfield 193, 3) := by decide +kernel
theorem dX7_ticksIn_26 : decode cX7_ticksIn 26 = .ok (.iload_n 1, 1) := by decide +kernel
theorem dX7_ticksIn_27 : decode cX7_ticksIn 27 = .ok (.invokestatic 196, 3) := by decide +kernel
theorem dX7_ticksIn_30 : decode cX7_ticksIn 30 = .ok (.ireturn, 1) := by decide +kernel
theorem dX7_sleeps_0 : decode cX7_sleeps 0 = .ok (.aload_n 0, 1) := by decide +kernel
theorem dX7_sleeps_1 : decode cX7_sleeps 1 = .ok (.getfield 47, 3) := by decide +kernel
theorem dX7_sleeps_4 : decode cX7_sleeps 4 = .ok (.getfield 200, 3) := by decide +kernel
theorem dX7_sleeps_7 : decode cX7_sleeps 7 = .ok (.ireturn, 1) := by decide +kernel
theorem dX7_lateness_0 : decode cX7_lateness 0 = .ok (.aload_n 0, 1) := by decide +kernel
theorem dX7_lateness_1 : decode cX7_lateness 1 = .ok (.getfield 47, 3) := by decide +kernel
theorem dX7_lateness_4 : decode cX7_lateness 4 = .ok (.getfield 203, 3) := by decide +kernel
theorem dX7_lateness_7 : decode cX7_lateness 7 = .ok (.ireturn, 1) := by decide +kernel
theorem dX7_served_0 : decode cX7_served 0 = .ok (.aload_n 0, 1) := by decide +kernel
theorem dX7_served_1 : decode cX7_served 1 = .ok (.getfield 47, 3) := by decide +kernel
theorem dX7_served_4 : decode cX7_served 4 = .ok (.getfield 206, 3) := by decide +kernel
theorem dX7_served_7 : decode cX7_served 7 = .ok (.ireturn, 1) := by decide +kernel
theorem dX7_setHarvest_0 : decode cX7_setHarvest 0 = .ok (.iload_n 1, 1) := by decide +kernel
theorem dX7_setHarvest_1 : decode cX7_setHarvest 1 = .ok (.iconst 0, 1) := by decide +kernel
theorem dX7_setHarvest_2 : decode cX7_setHarvest 2 = .ok (.bipush 23, 2) := by decide +kernel
theorem dX7_setHarvest_4 : decode cX7_setHarvest 4 = .ok (.invokestatic 78, 3) := by decide +kernel
theorem dX7_setHarvest_7 : decode cX7_setHarvest 7 = .ok (.ifCond .eq 14, 3) := by decide +kernel
theorem dX7_setHarvest_10 : decode cX7_setHarvest 10 = .ok (.iload_n 2, 1) := by decide +kernel
theorem dX7_setHarvest_11 : decode cX7_setHarvest 11 = .ok (.iconst 0, 1) := by decide +kernel
theorem dX7_setHarvest_12 : decode cX7_setHarvest 12 = .ok (.sipush 1000, 3) := by decide +kernel
theorem dX7_setHarvest_15 : decode cX7_setHarvest 15 = .ok (.invokestatic 78, 3) := by decide +kernel
theorem dX7_setHarvest_18 : decode cX7_setHarvest 18 = .ok (.ifCond .ne 13, 3) := by decide +kernel
theorem dX7_setHarvest_21 : decode cX7_setHarvest 21 = .ok (.new 82, 3) := by decide +kernel
theorem dX7_setHarvest_24 : decode cX7_setHarvest 24 = .ok (.dup, 1) := by decide +kernel
theorem dX7_setHarvest_25 : decode cX7_setHarvest 25 = .ok (.ldc 209, 2) := by decide +kernel
theorem dX7_setHarvest_27 : decode cX7_setHarvest 27 = .ok (.invokespecial 86, 3) := by decide +kernel
theorem dX7_setHarvest_30 : decode cX7_setHarvest 30 = .ok (.athrow, 1) := by decide +kernel
theorem dX7_setHarvest_31 : decode cX7_setHarvest 31 = .ok (.aload_n 0, 1) := by decide +kernel
theorem dX7_setHarvest_32 : decode cX7_setHarvest 32 = .ok (.getfield 54, 3) := by decide +kernel
theorem dX7_setHarvest_35 : decode cX7_setHarvest 35 = .ok (.getfield 211, 3) := by decide +kernel
theorem dX7_setHarvest_38 : decode cX7_setHarvest 38 = .ok (.iload_n 1, 1) := by decide +kernel
theorem dX7_setHarvest_39 : decode cX7_setHarvest 39 = .ok (.iload_n 2, 1) := by decide +kernel
theorem dX7_setHarvest_40 : decode cX7_setHarvest 40 = .ok (.invokestatic 104, 3) := by decide +kernel
theorem dX7_setHarvest_43 : decode cX7_setHarvest 43 = .ok (.ireturn, 1) := by decide +kernel
theorem dX7_available_0 : decode cX7_available 0 = .ok (.aload_n 0, 1) := by decide +kernel
theorem dX7_available_1 : decode cX7_available 1 = .ok (.getfield 54, 3) := by decide +kernel
theorem dX7_available_4 : decode cX7_available 4 = .ok (.getfield 214, 3) := by decide +kernel
theorem dX7_available_7 : decode cX7_available 7 = .ok (.ireturn, 1) := by decide +kernel
theorem dX7_bound_0 : decode cX7_bound 0 = .ok (.aload_n 0, 1) := by decide +kernel
theorem dX7_bound_1 : decode cX7_bound 1 = .ok (.getfield 54, 3) := by decide +kernel
theorem dX7_bound_4 : decode cX7_bound 4 = .ok (.getfield 217, 3) := by decide +kernel
theorem dX7_bound_7 : decode cX7_bound 7 = .ok (.ireturn, 1) := by decide +kernel
theorem dX7_shortTicks_0 : decode cX7_shortTicks 0 = .ok (.aload_n 0, 1) := by decide +kernel
theorem dX7_shortTicks_1 : decode cX7_shortTicks 1 = .ok (.getfield 54, 3) := by decide +kernel
theorem dX7_shortTicks_4 : decode cX7_shortTicks 4 = .ok (.getfield 220, 3) := by decide +kernel
theorem dX7_shortTicks_7 : decode cX7_shortTicks 7 = .ok (.ireturn, 1) := by decide +kernel
theorem dX7_plannedCost_0 : decode cX7_plannedCost 0 = .ok (.iload_n 1, 1) := by decide +kernel
theorem dX7_plannedCost_1 : decode cX7_plannedCost 1 = .ok (.aload_n 0, 1) := by decide +kernel
theorem dX7_plannedCost_2 : decode cX7_plannedCost 2 = .ok (.getfield 69, 3) := by decide +kernel
theorem dX7_plannedCost_5 : decode cX7_plannedCost 5 = .ok (.aload_n 0, 1) := by decide +kernel
theorem dX7_plannedCost_6 : decode cX7_plannedCost 6 = .ok (.getfield 69, 3) := by decide +kernel
theorem dX7_plannedCost_9 : decode cX7_plannedCost 9 = .ok (.sipush 400, 3) := by decide +kernel
theorem dX7_plannedCost_12 : decode cX7_plannedCost 12 = .ok (.iadd, 1) := by decide +kernel
theorem dX7_plannedCost_13 : decode cX7_plannedCost 13 = .ok (.invokestatic 78, 3) := by decide +kernel
theorem dX7_plannedCost_16 : decode cX7_plannedCost 16 = .ok (.ifCond .ne 13, 3) := by decide +kernel
theorem dX7_plannedCost_19 : decode cX7_plannedCost 19 = .ok (.new 82, 3) := by decide +kernel
theorem dX7_plannedCost_22 : decode cX7_plannedCost 22 = .ok (.dup, 1) := by decide +kernel
theorem dX7_plannedCost_23 : decode cX7_plannedCost 23 = .ok (.ldc 223, 2) := by decide +kernel
theorem dX7_plannedCost_25 : decode cX7_plannedCost 25 = .ok (.invokespecial 86, 3) := by decide +kernel
theorem dX7_plannedCost_28 : decode cX7_plannedCost 28 = .ok (.athrow, 1) := by decide +kernel
theorem dX7_plannedCost_29 : decode cX7_plannedCost 29 = .ok (.aload_n 0, 1) := by decide +kernel
theorem dX7_plannedCost_30 : decode cX7_plannedCost 30 = .ok (.getfield 61, 3) := by decide +kernel
theorem dX7_plannedCost_33 : decode cX7_plannedCost 33 = .ok (.aload_n 0, 1) := by decide +kernel
theorem dX7_plannedCost_34 : decode cX7_plannedCost 34 = .ok (.getfield 30, 3) := by decide +kernel
theorem dX7_plannedCost_37 : decode cX7_plannedCost 37 = .ok (.aload_n 0, 1) := by decide +kernel
theorem dX7_plannedCost_38 : decode cX7_plannedCost 38 = .ok (.getfield 69, 3) := by decide +kernel
theorem dX7_plannedCost_41 : decode cX7_plannedCost 41 = .ok (.iload_n 1, 1) := by decide +kernel
theorem dX7_plannedCost_42 : decode cX7_plannedCost 42 = .ok (.aload_n 0, 1) := by decide +kernel
theorem dX7_plannedCost_43 : decode cX7_plannedCost 43 = .ok (.getfield 10, 3) := by decide +kernel
theorem dX7_plannedCost_46 : decode cX7_plannedCost 46 = .ok (.aload_n 0, 1) := by decide +kernel
theorem dX7_plannedCost_47 : decode cX7_plannedCost 47 = .ok (.invokevirtual 233, 3) := by decide +kernel
theorem dX7_plannedCost_50 : decode cX7_plannedCost 50 = .ok (.invokevirtual 236, 3) := by decide +kernel
theorem dX7_plannedCost_53 : decode cX7_plannedCost 53 = .ok (.lreturn, 1) := by decide +kernel
theorem dX7_playTick_0 : decode cX7_playTick 0 = .ok (.aload_n 0, 1) := by decide +kernel
theorem dX7_playTick_1 : decode cX7_playTick 1 = .ok (.getfield 72, 3) := by decide +kernel
theorem dX7_playTick_4 : decode cX7_playTick 4 = .ok (.ifCond .eq 7, 3) := by decide +kernel
theorem dX7_playTick_7 : decode cX7_playTick 7 = .ok (.aload_n 0, 1) := by decide +kernel
theorem dX7_playTick_8 : decode cX7_playTick 8 = .ok (.invokevirtual 243, 3) := by decide +kernel
theorem dX7_playTick_11 : decode cX7_playTick 11 = .ok (.aload_n 0, 1) := by decide +kernel
theorem dX7_playTick_12 : decode cX7_playTick 12 = .ok (.getfield 72, 3) := by decide +kernel
theorem dX7_playTick_15 : decode cX7_playTick 15 = .ok (.ifCond .ne 15, 3) := by decide +kernel
theorem dX7_playTick_18 : decode cX7_playTick 18 = .ok (.aload_n 0, 1) := by decide +kernel
theorem dX7_playTick_19 : decode cX7_playTick 19 = .ok (.invokevirtual 246, 3) := by decide +kernel
theorem dX7_playTick_22 : decode cX7_playTick 22 = .ok (.aload_n 0, 1) := by decide +kernel
theorem dX7_playTick_23 : decode cX7_playTick 23 = .ok (.aload_n 0, 1) := by decide +kernel
theorem dX7_playTick_24 : decode cX7_playTick 24 = .ok (.invokevirtual 249, 3) := by decide +kernel
theorem dX7_playTick_27 : decode cX7_playTick 27 = .ok (.invokevirtual 252, 3) := by decide +kernel
theorem dX7_playTick_30 : decode cX7_playTick 30 = .ok (.aload_n 0, 1) := by decide +kernel
theorem dX7_playTick_31 : decode cX7_playTick 31 = .ok (.getfield 47, 3) := by decide +kernel
theorem dX7_playTick_34 : decode cX7_playTick 34 = .ok (.aload_n 0, 1) := by decide +kernel
theorem dX7_playTick_35 : decode cX7_playTick 35 = .ok (.getfield 72, 3) := by decide +kernel
theorem dX7_playTick_38 : decode cX7_playTick 38 = .ok (.invokevirtual 256, 3) := by decide +kernel
theorem dX7_playTick_41 : decode cX7_playTick 41 = .ok (.aload_n 0, 1) := by decide +kernel
theorem dX7_playTick_42 : decode cX7_playTick 42 = .ok (.getfield 47, 3) := by decide +kernel
theorem dX7_playTick_45 : decode cX7_playTick 45 = .ok (.aload_n 0, 1) := by decide +kernel
theorem dX7_playTick_46 : decode cX7_playTick 46 = .ok (.invokevirtual 259, 3) := by decide +kernel
theorem dX7_playTick_49 : decode cX7_playTick 49 = .ok (.i2l, 1) := by decide +kernel
theorem dX7_playTick_50 : decode cX7_playTick 50 = .ok (.invokevirtual 262, 3) := by decide +kernel
theorem dX7_playTick_53 : decode cX7_playTick 53 = .ok (.aload_n 0, 1) := by decide +kernel
theorem dX7_playTick_54 : decode cX7_playTick 54 = .ok (.getfield 54, 3) := by decide +kernel
theorem dX7_playTick_57 : decode cX7_playTick 57 = .ok (.aload_n 0, 1) := by decide +kernel
theorem dX7_playTick_58 : decode cX7_playTick 58 = .ok (.getfield 69, 3) := by decide +kernel
theorem dX7_playTick_61 : decode cX7_playTick 61 = .ok (.bipush 60, 2) := by decide +kernel
theorem dX7_playTick_63 : decode cX7_playTick 63 = .ok (.idiv, 1) := by decide +kernel
theorem dX7_playTick_64 : decode cX7_playTick 64 = .ok (.bipush 24, 2) := by decide +kernel
theorem dX7_playTick_66 : decode cX7_playTick 66 = .ok (.invokestatic 266, 3) := by decide +kernel
theorem dX7_playTick_69 : decode cX7_playTick 69 = .ok (.aload_n 0, 1) := by decide +kernel
theorem dX7_playTick_70 : decode cX7_playTick 70 = .ok (.getfield 47, 3) := by decide +kernel
theorem dX7_playTick_73 : decode cX7_playTick 73 = .ok (.invokevirtual 269, 3) := by decide +kernel
theorem dX7_playTick_76 : decode cX7_playTick 76 = .ok (.invokevirtual 273, 3) := by decide +kernel
theorem dX7_playTick_79 : decode cX7_playTick 79 = .ok (.aload_n 0, 1) := by decide +kernel
theorem dX7_playTick_80 : decode cX7_playTick 80 = .ok (.dup, 1) := by decide +kernel
theorem dX7_playTick_81 : decode cX7_playTick 81 = .ok (.getfield 69, 3) := by decide +kernel
theorem dX7_playTick_84 : decode cX7_playTick 84 = .ok (.iconst 1, 1) := by decide +kernel
theorem dX7_playTick_85 : decode cX7_playTick 85 = .ok (.iadd, 1) := by decide +kernel
theorem dX7_playTick_86 : decode cX7_playTick 86 = .ok (.putfield 69, 3) := by decide +kernel
theorem dX7_playTick_89 : decode cX7_playTick 89 = .ok (.return_, 1) := by decide +kernel
theorem dX7_wakeIfCalledFor_0 : decode cX7_wakeIfCalledFor 0 = .ok (.aload_n 0, 1) := by decide +kernel
theorem dX7_wakeIfCalledFor_1 : decode cX7_wakeIfCalledFor 1 = .ok (.invokevirtual 277, 3) := by decide +kernel
theorem dX7_wakeIfCalledFor_4 : decode cX7_wakeIfCalledFor 4 = .ok (.ifCond .ne 7, 3) := by decide +kernel
theorem dX7_wakeIfCalledFor_7 : decode cX7_wakeIfCalledFor 7 = .ok (.iconst 1, 1) := by decide +kernel
theorem dX7_wakeIfCalledFor_8 : decode cX7_wakeIfCalledFor 8 = .ok (.goto 4, 3) := by decide +kernel
theorem dX7_wakeIfCalledFor_11 : decode cX7_wakeIfCalledFor 11 = .ok (.iconst 0, 1) := by decide +kernel
theorem dX7_wakeIfCalledFor_12 : decode cX7_wakeIfCalledFor 12 = .ok (.istore_n 1, 1) := by decide +kernel
theorem dX7_wakeIfCalledFor_13 : decode cX7_wakeIfCalledFor 13 = .ok (.iload_n 1, 1) := by decide +kernel
theorem dX7_wakeIfCalledFor_14 : decode cX7_wakeIfCalledFor 14 = .ok (.ifCond .ne 18, 3) := by decide +kernel
theorem dX7_wakeIfCalledFor_17 : decode cX7_wakeIfCalledFor 17 = .ok (.aload_n 0, 1) := by decide +kernel
theorem dX7_wakeIfCalledFor_18 : decode cX7_wakeIfCalledFor 18 = .ok (.getfield 34, 3) := by decide +kernel
theorem dX7_wakeIfCalledFor_21 : decode cX7_wakeIfCalledFor 21 = .ok (.aload_n 0, 1) := by decide +kernel
theorem dX7_wakeIfCalledFor_22 : decode cX7_wakeIfCalledFor 22 = .ok (.getfield 69, 3) := by decide +kernel
theorem dX7_wakeIfCalledFor_25 : decode cX7_wakeIfCalledFor 25 = .ok (.invokevirtual 280, 3) := by decide +kernel
theorem dX7_wakeIfCalledFor_28 : decode cX7_wakeIfCalledFor 28 = .ok (.ifCond .ne 4, 3) := by decide +kernel
theorem dX7_wakeIfCalledFor_31 : decode cX7_wakeIfCalledFor 31 = .ok (.return_, 1) := by decide +kernel
theorem dX7_wakeIfCalledFor_32 : decode cX7_wakeIfCalledFor 32 = .ok (.iload_n 1, 1) := by decide +kernel
theorem dX7_wakeIfCalledFor_33 : decode cX7_wakeIfCalledFor 33 = .ok (.ifCond .ne 45, 3) := by decide +kernel
theorem dX7_wakeIfCalledFor_36 : decode cX7_wakeIfCalledFor 36 = .ok (.aload_n 0, 1) := by decide +kernel
theorem dX7_wakeIfCalledFor_37 : decode cX7_wakeIfCalledFor 37 = .ok (.getfield 47, 3) := by decide +kernel
theorem dX7_wakeIfCalledFor_40 : decode cX7_wakeIfCalledFor 40 = .ok (.aload_n 0, 1) := by decide +kernel
theorem dX7_wakeIfCalledFor_41 : decode cX7_wakeIfCalledFor 41 = .ok (.getfield 10, 3) := by decide +kernel
theorem dX7_wakeIfCalledFor_44 : decode cX7_wakeIfCalledFor 44 = .ok (.aload_n 0, 1) := by decide +kernel
theorem dX7_wakeIfCalledFor_45 : decode cX7_wakeIfCalledFor 45 = .ok (.getfield 72, 3) := by decide +kernel
theorem dX7_wakeIfCalledFor_48 : decode cX7_wakeIfCalledFor 48 = .ok (.invokevirtual 283, 3) := by decide +kernel
theorem dX7_wakeIfCalledFor_51 : decode cX7_wakeIfCalledFor 51 = .ok (.i2l, 1) := by decide +kernel
theorem dX7_wakeIfCalledFor_52 : decode cX7_wakeIfCalledFor 52 = .ok (.invokevirtual 262, 3) := by decide +kernel
theorem dX7_wakeIfCalledFor_55 : decode cX7_wakeIfCalledFor 55 = .ok (.aload_n 0, 1) := by decide +kernel
theorem dX7_wakeIfCalledFor_56 : decode cX7_wakeIfCalledFor 56 = .ok (.getfield 47, 3) := by decide +kernel
theorem dX7_wakeIfCalledFor_59 : decode cX7_wakeIfCalledFor 59 = .ok (.dup, 1) := by decide +kernel
theorem dX7_wakeIfCalledFor_60 : decode cX7_wakeIfCalledFor 60 = .ok (.getfield 203, 3) := by decide +kernel
theorem dX7_wakeIfCalledFor_63 : decode cX7_wakeIfCalledFor 63 = .ok (.aload_n 0, 1) := by decide +kernel
theorem dX7_wakeIfCalledFor_64 : decode cX7_wakeIfCalledFor 64 = .ok (.getfield 10, 3) := by decide +kernel
theorem dX7_wakeIfCalledFor_67 : decode cX7_wakeIfCalledFor 67 = .ok (.aload_n 0, 1) := by decide +kernel
theorem dX7_wakeIfCalledFor_68 : decode cX7_wakeIfCalledFor 68 = .ok (.getfield 72, 3) := by decide +kernel
theorem dX7_wakeIfCalledFor_71 : decode cX7_wakeIfCalledFor 71 = .ok (.invokevirtual 286, 3) := by decide +kernel
theorem dX7_wakeIfCalledFor_74 : decode cX7_wakeIfCalledFor 74 = .ok (.iadd, 1) := by decide +kernel
theorem dX7_wakeIfCalledFor_75 : decode cX7_wakeIfCalledFor 75 = .ok (.putfield 203, 3) := by decide +kernel
theorem dX7_wakeIfCalledFor_78 : decode cX7_wakeIfCalledFor 78 = .ok (.aload_n 0, 1) := by decide +kernel
theorem dX7_wakeIfCalledFor_79 : decode cX7_wakeIfCalledFor 79 = .ok (.invokevirtual 289, 3) := by decide +kernel
theorem dX7_wakeIfCalledFor_82 : decode cX7_wakeIfCalledFor 82 = .ok (.return_, 1) := by decide +kernel
theorem dX7_wakeForCall_0 : decode cX7_wakeForCall 0 = .ok (.aload_n 0, 1) := by decide +kernel
theorem dX7_wakeForCall_1 : decode cX7_wakeForCall 1 = .ok (.getfield 72, 3) := by decide +kernel
theorem dX7_wakeForCall_4 : decode cX7_wakeForCall 4 = .ok (.ifCond .ne 4, 3) := by decide +kernel
theorem dX7_wakeForCall_7 : decode cX7_wakeForCall 7 = .ok (.return_, 1) := by decide +kernel
theorem dX7_wakeForCall_8 : decode cX7_wakeForCall 8 = .ok (.aload_n 0, 1) := by decide +kernel
theorem dX7_wakeForCall_9 : decode cX7_wakeForCall 9 = .ok (.getfield 47, 3) := by decide +kernel
theorem dX7_wakeForCall_12 : decode cX7_wakeForCall 12 = .ok (.aload_n 0, 1) := by decide +kernel
theorem dX7_wakeForCall_13 : decode cX7_wakeForCall 13 = .ok (.getfield 10, 3) := by decide +kernel
theorem dX7_wakeForCall_16 : decode cX7_wakeForCall 16 = .ok (.aload_n 0, 1) := by decide +kernel
theorem dX7_wakeForCall_17 : decode cX7_wakeForCall 17 = .ok (.getfield 72, 3) := by decide +kernel
theorem dX7_wakeForCall_20 : decode cX7_wakeForCall 20 = .ok (.invokevirtual 283, 3) := by decide +kernel
theorem dX7_wakeForCall_23 : decode cX7_wakeForCall 23 = .ok (.i2l, 1) := by decide +kernel
theorem dX7_wakeForCall_24 : decode cX7_wakeForCall 24 = .ok (.invokevirtual 262, 3) := by decide +kernel
theorem dX7_wakeForCall_27 : decode cX7_wakeForCall 27 = .ok (.aload_n 0, 1) := by decide +kernel
theorem dX7_wakeForCall_28 : decode cX7_wakeForCall 28 = .ok (.invokevirtual 289, 3) := by decide +kernel
theorem dX7_wakeForCall_31 : decode cX7_wakeForCall 31 = .ok (.return_, 1) := by decide +kernel
theorem dX7_endIdleTime_0 : decode cX7_endIdleTime 0 = .ok (.aload_n 0, 1) := by decide +kernel
theorem dX7_endIdleTime_1 : decode cX7_endIdleTime 1 = .ok (.getfield 40, 3) := by decide +kernel
theorem dX7_endIdleTime_4 : decode cX7_endIdleTime 4 = .ok (.aload_n 0, 1) := by decide +kernel
theorem dX7_endIdleTime_5 : decode cX7_endIdleTime 5 = .ok (.getfield 69, 3) := by decide +kernel
theorem dX7_endIdleTime_8 : decode cX7_endIdleTime 8 = .ok (.aload_n 0, 1) := by decide +kernel
theorem dX7_endIdleTime_9 : decode cX7_endIdleTime 9 = .ok (.getfield 75, 3) := by decide +kernel
theorem dX7_endIdleTime_12 : decode cX7_endIdleTime 12 = .ok (.isub, 1) := by decide +kernel
theorem dX7_endIdleTime_13 : decode cX7_endIdleTime 13 = .ok (.invokevirtual 292, 3) := by decide +kernel
theorem dX7_endIdleTime_16 : decode cX7_endIdleTime 16 = .ok (.aload_n 0, 1) := by decide +kernel
theorem dX7_endIdleTime_17 : decode cX7_endIdleTime 17 = .ok (.iconst 0, 1) := by decide +kernel
theorem dX7_endIdleTime_18 : decode cX7_endIdleTime 18 = .ok (.putfield 72, 3) := by decide +kernel
theorem dX7_endIdleTime_21 : decode cX7_endIdleTime 21 = .ok (.return_, 1) := by decide +kernel
theorem dX7_serveWhatIsDue_0 : decode cX7_serveWhatIsDue 0 = .ok (.aload_n 0, 1) := by decide +kernel
theorem dX7_serveWhatIsDue_1 : decode cX7_serveWhatIsDue 1 = .ok (.getfield 34, 3) := by decide +kernel
theorem dX7_serveWhatIsDue_4 : decode cX7_serveWhatIsDue 4 = .ok (.aload_n 0, 1) := by decide +kernel
theorem dX7_serveWhatIsDue_5 : decode cX7_serveWhatIsDue 5 = .ok (.getfield 69, 3) := by decide +kernel
theorem dX7_serveWhatIsDue_8 : decode cX7_serveWhatIsDue 8 = .ok (.invokevirtual 295, 3) := by decide +kernel
theorem dX7_serveWhatIsDue_11 : decode cX7_serveWhatIsDue 11 = .ok (.aload_n 0, 1) := by decide +kernel
theorem dX7_serveWhatIsDue_12 : decode cX7_serveWhatIsDue 12 = .ok (.getfield 30, 3) := by decide +kernel
theorem dX7_serveWhatIsDue_15 : decode cX7_serveWhatIsDue 15 = .ok (.aload_n 0, 1) := by decide +kernel
theorem dX7_serveWhatIsDue_16 : decode cX7_serveWhatIsDue 16 = .ok (.getfield 69, 3) := by decide +kernel
theorem dX7_serveWhatIsDue_19 : decode cX7_serveWhatIsDue 19 = .ok (.invokevirtual 295, 3) := by decide +kernel
theorem dX7_serveWhatIsDue_22 : decode cX7_serveWhatIsDue 22 = .ok (.iadd, 1) := by decide +kernel
theorem dX7_serveWhatIsDue_23 : decode cX7_serveWhatIsDue 23 = .ok (.istore_n 1, 1) := by decide +kernel
theorem dX7_serveWhatIsDue_24 : decode cX7_serveWhatIsDue 24 = .ok (.aload_n 0, 1) := by decide +kernel
theorem dX7_serveWhatIsDue_25 : decode cX7_serveWhatIsDue 25 = .ok (.getfield 47, 3) := by decide +kernel
theorem dX7_serveWhatIsDue_28 : decode cX7_serveWhatIsDue 28 = .ok (.dup, 1) := by decide +kernel
theorem dX7_serveWhatIsDue_29 : decode cX7_serveWhatIsDue 29 = .ok (.getfield 206, 3) := by decide +kernel
theorem dX7_serveWhatIsDue_32 : decode cX7_serveWhatIsDue 32 = .ok (.iload_n 1, 1) := by decide +kernel
theorem dX7_serveWhatIsDue_33 : decode cX7_serveWhatIsDue 33 = .ok (.iadd, 1) := by decide +kernel
theorem dX7_serveWhatIsDue_34 : decode cX7_serveWhatIsDue 34 = .ok (.putfield 206, 3) := by decide +kernel
theorem dX7_serveWhatIsDue_37 : decode cX7_serveWhatIsDue 37 = .ok (.aload_n 0, 1) := by decide +kernel
theorem dX7_serveWhatIsDue_38 : decode cX7_serveWhatIsDue 38 = .ok (.getfield 47, 3) := by decide +kernel
theorem dX7_serveWhatIsDue_41 : decode cX7_serveWhatIsDue 41 = .ok (.iload_n 1, 1) := by decide +kernel
theorem dX7_serveWhatIsDue_42 : decode cX7_serveWhatIsDue 42 = .ok (.i2l, 1) := by decide +kernel
theorem dX7_serveWhatIsDue_43 : decode cX7_serveWhatIsDue 43 = .ok (.aload_n 0, 1) := by decide +kernel
theorem dX7_serveWhatIsDue_44 : decode cX7_serveWhatIsDue 44 = .ok (.getfield 10, 3) := by decide +kernel
theorem dX7_serveWhatIsDue_47 : decode cX7_serveWhatIsDue 47 = .ok (.iconst 0, 1) := by decide +kernel
theorem dX7_serveWhatIsDue_48 : decode cX7_serveWhatIsDue 48 = .ok (.invokevirtual 98, 3) := by decide +kernel
theorem dX7_serveWhatIsDue_51 : decode cX7_serveWhatIsDue 51 = .ok (.i2l, 1) := by decide +kernel
theorem dX7_serveWhatIsDue_52 : decode cX7_serveWhatIsDue 52 = .ok (.lmul, 1) := by decide +kernel
theorem dX7_serveWhatIsDue_53 : decode cX7_serveWhatIsDue 53 = .ok (.invokevirtual 262, 3) := by decide +kernel
theorem dX7_serveWhatIsDue_56 : decode cX7_serveWhatIsDue 56 = .ok (.return_, 1) := by decide +kernel
theorem dX7_chooseState_0 : decode cX7_chooseState 0 = .ok (.aload_n 0, 1) := by decide +kernel
theorem dX7_chooseState_1 : decode cX7_chooseState 1 = .ok (.invokevirtual 277, 3) := by decide +kernel
theorem dX7_chooseState_4 : decode cX7_chooseState 4 = .ok (.istore_n 1, 1) := by decide +kernel
theorem dX7_chooseState_5 : decode cX7_chooseState 5 = .ok (.aload_n 0, 1) := by decide +kernel
theorem dX7_chooseState_6 : decode cX7_chooseState 6 = .ok (.getfield 65, 3) := by decide +kernel
theorem dX7_chooseState_9 : decode cX7_chooseState 9 = .ok (.ifCond .ne 16, 3) := by decide +kernel
theorem dX7_chooseState_12 : decode cX7_chooseState 12 = .ok (.aload_n 0, 1) := by decide +kernel
theorem dX7_chooseState_13 : decode cX7_chooseState 13 = .ok (.getfield 10, 3) := by decide +kernel
theorem dX7_chooseState_16 : decode cX7_chooseState 16 = .ok (.aload_n 0, 1) := by decide +kernel
theorem dX7_chooseState_17 : decode cX7_chooseState 17 = .ok (.invokevirtual 233, 3) := by decide +kernel
theorem dX7_chooseState_20 : decode cX7_chooseState 20 = .ok (.iload_n 1, 1) := by decide +kernel
theorem dX7_chooseState_21 : decode cX7_chooseState 21 = .ok (.invokevirtual 298, 3) := by decide +kernel
theorem dX7_chooseState_24 : decode cX7_chooseState 24 = .ok (.ireturn, 1) := by decide +kernel
theorem dX7_chooseState_25 : decode cX7_chooseState 25 = .ok (.aload_n 0, 1) := by decide +kernel
theorem dX7_chooseState_26 : decode cX7_chooseState 26 = .ok (.getfield 65, 3) := by decide +kernel
theorem dX7_chooseState_29 : decode cX7_chooseState 29 = .ok (.iconst 2, 1) := by decide +kernel
theorem dX7_chooseState_30 : decode cX7_chooseState 30 = .ok (.if_icmp .ne 25, 3) := by decide +kernel
theorem dX7_chooseState_33 : decode cX7_chooseState 33 = .ok (.aload_n 0, 1) := by decide +kernel
theorem dX7_chooseState_34 : decode cX7_chooseState 34 = .ok (.getfield 40, 3) := by decide +kernel
theorem dX7_chooseState_37 : decode cX7_chooseState 37 = .ok (.getfield 301, 3) := by decide +kernel
theorem dX7_chooseState_40 : decode cX7_chooseState 40 = .ok (.ifCond .le 15, 3) := by decide +kernel
theorem dX7_chooseState_43 : decode cX7_chooseState 43 = .ok (.iload_n 1, 1) := by decide +kernel
theorem dX7_chooseState_44 : decode cX7_chooseState 44 = .ok (.aload_n 0, 1) := by decide +kernel
theorem dX7_chooseState_45 : decode cX7_chooseState 45 = .ok (.getfield 40, 3) := by decide +kernel
theorem dX7_chooseState_48 : decode cX7_chooseState 48 = .ok (.invokevirtual 302, 3) := by decide +kernel
theorem dX7_chooseState_51 : decode cX7_chooseState 51 = .ok (.invokestatic 155, 3) := by decide +kernel
theorem dX7_chooseState_54 : decode cX7_chooseState 54 = .ok (.istore_n 1, 1) := by decide +kernel
theorem dX7_chooseState_55 : decode cX7_chooseState 55 = .ok (.aload_n 0, 1) := by decide +kernel
theorem dX7_chooseState_56 : decode cX7_chooseState 56 = .ok (.getfield 10, 3) := by decide +kernel
theorem dX7_chooseState_59 : decode cX7_chooseState 59 = .ok (.aload_n 0, 1) := by decide +kernel
theorem dX7_chooseState_60 : decode cX7_chooseState 60 = .ok (.invokevirtual 233, 3) := by decide +kernel
theorem dX7_chooseState_63 : decode cX7_chooseState 63 = .ok (.iload_n 1, 1) := by decide +kernel
theorem dX7_chooseState_64 : decode cX7_chooseState 64 = .ok (.invokevirtual 305, 3) := by decide +kernel
theorem dX7_chooseState_67 : decode cX7_chooseState 67 = .ok (.ireturn, 1) := by decide +kernel
theorem dX7_fallAsleep_0 : decode cX7_fallAsleep 0 = .ok (.iload_n 1, 1) := by decide +kernel
theorem dX7_fallAsleep_1 : decode cX7_fallAsleep 1 = .ok (.ifCond .ne 4, 3) := by decide +kernel
theorem dX7_fallAsleep_4 : decode cX7_fallAsleep 4 = .ok (.return_, 1) := by decide +kernel
theorem dX7_fallAsleep_5 : decode cX7_fallAsleep 5 = .ok (.aload_n 0, 1) := by decide +kernel
theorem dX7_fallAsleep_6 : decode cX7_fallAsleep 6 = .ok (.iload_n 1, 1) := by decide +kernel
theorem dX7_fallAsleep_7 : decode cX7_fallAsleep 7 = .ok (.putfield 72, 3) := by decide +kernel
theorem dX7_fallAsleep_10 : decode cX7_fallAsleep 10 = .ok (.aload_n 0, 1) := by decide +kernel
theorem dX7_fallAsleep_11 : decode cX7_fallAsleep 11 = .ok (.aload_n 0, 1) := by decide +kernel
theorem dX7_fallAsleep_12 : decode cX7_fallAsleep 12 = .ok (.getfield 69, 3) := by decide +kernel
theorem dX7_fallAsleep_15 : decode cX7_fallAsleep 15 = .ok (.putfield 75, 3) := by decide +kernel
theorem dX7_fallAsleep_18 : decode cX7_fallAsleep 18 = .ok (.aload_n 0, 1) := by decide +kernel
theorem dX7_fallAsleep_19 : decode cX7_fallAsleep 19 = .ok (.getfield 47, 3) := by decide +kernel
theorem dX7_fallAsleep_22 : decode cX7_fallAsleep 22 = .ok (.dup, 1) := by decide +kernel
theorem dX7_fallAsleep_23 : decode cX7_fallAsleep 23 = .ok (.getfield 200, 3) := by decide +kernel
theorem dX7_fallAsleep_26 : decode cX7_fallAsleep 26 = .ok (.iconst 1, 1) := by decide +kernel
theorem dX7_fallAsleep_27 : decode cX7_fallAsleep 27 = .ok (.iadd, 1) := by decide +kernel
theorem dX7_fallAsleep_28 : decode cX7_fallAsleep 28 = .ok (.putfield 200, 3) := by decide +kernel
theorem dX7_fallAsleep_31 : decode cX7_fallAsleep 31 = .ok (.aload_n 0, 1) := by decide +kernel
theorem dX7_fallAsleep_32 : decode cX7_fallAsleep 32 = .ok (.getfield 47, 3) := by decide +kernel
theorem dX7_fallAsleep_35 : decode cX7_fallAsleep 35 = .ok (.aload_n 0, 1) := by decide +kernel
theorem dX7_fallAsleep_36 : decode cX7_fallAsleep 36 = .ok (.getfield 10, 3) := by decide +kernel
theorem dX7_fallAsleep_39 : decode cX7_fallAsleep 39 = .ok (.iload_n 1, 1) := by decide +kernel
theorem dX7_fallAsleep_40 : decode cX7_fallAsleep 40 = .ok (.invokevirtual 308, 3) := by decide +kernel
theorem dX7_fallAsleep_43 : decode cX7_fallAsleep 43 = .ok (.i2l, 1) := by decide +kernel
theorem dX7_fallAsleep_44 : decode cX7_fallAsleep 44 = .ok (.invokevirtual 262, 3) := by decide +kernel
theorem dX7_fallAsleep_47 : decode cX7_fallAsleep 47 = .ok (.return_, 1) := by decide +kernel
theorem dX7_powerOfTick_0 : decode cX7_powerOfTick 0 = .ok (.aload_n 0, 1) := by decide +kernel
theorem dX7_powerOfTick_1 : decode cX7_powerOfTick 1 = .ok (.invokevirtual 277, 3) := by decide +kernel
theorem dX7_powerOfTick_4 : decode cX7_powerOfTick 4 = .ok (.aload_n 0, 1) := by decide +kernel
theorem dX7_powerOfTick_5 : decode cX7_powerOfTick 5 = .ok (.getfield 10, 3) := by decide +kernel
theorem dX7_powerOfTick_8 : decode cX7_powerOfTick 8 = .ok (.aload_n 0, 1) := by decide +kernel
theorem dX7_powerOfTick_9 : decode cX7_powerOfTick 9 = .ok (.getfield 72, 3) := by decide +kernel
theorem dX7_powerOfTick_12 : decode cX7_powerOfTick 12 = .ok (.invokevirtual 286, 3) := by decide +kernel
theorem dX7_powerOfTick_15 : decode cX7_powerOfTick 15 = .ok (.if_icmp .gt 7, 3) := by decide +kernel
theorem dX7_powerOfTick_18 : decode cX7_powerOfTick 18 = .ok (.iconst 1, 1) := by decide +kernel
theorem dX7_powerOfTick_19 : decode cX7_powerOfTick 19 = .ok (.goto 4, 3) := by decide +kernel
theorem dX7_powerOfTick_22 : decode cX7_powerOfTick 22 = .ok (.iconst 0, 1) := by decide +kernel
theorem dX7_powerOfTick_23 : decode cX7_powerOfTick 23 = .ok (.istore_n 1, 1) := by decide +kernel
theorem dX7_powerOfTick_24 : decode cX7_powerOfTick 24 = .ok (.aload_n 0, 1) := by decide +kernel
theorem dX7_powerOfTick_25 : decode cX7_powerOfTick 25 = .ok (.getfield 10, 3) := by decide +kernel
theorem dX7_powerOfTick_28 : decode cX7_powerOfTick 28 = .ok (.iload_n 1, 1) := by decide +kernel
theorem dX7_powerOfTick_29 : decode cX7_powerOfTick 29 = .ok (.ifCond .eq 7, 3) := by decide +kernel
theorem dX7_powerOfTick_32 : decode cX7_powerOfTick 32 = .ok (.iconst 0, 1) := by decide +kernel
theorem dX7_powerOfTick_33 : decode cX7_powerOfTick 33 = .ok (.goto 7, 3) := by decide +kernel
theorem dX7_powerOfTick_36 : decode cX7_powerOfTick 36 = .ok (.aload_n 0, 1) := by decide +kernel
theorem dX7_powerOfTick_37 : decode cX7_powerOfTick 37 = .ok (.getfield 72, 3) := by decide +kernel
theorem dX7_powerOfTick_40 : decode cX7_powerOfTick 40 = .ok (.invokevirtual 98, 3) := by decide +kernel
theorem dX7_powerOfTick_43 : decode cX7_powerOfTick 43 = .ok (.ireturn, 1) := by decide +kernel
theorem dX7_ticksToWakeup_0 : decode cX7_ticksToWakeup 0 = .ok (.aload_n 0, 1) := by decide +kernel
theorem dX7_ticksToWakeup_1 : decode cX7_ticksToWakeup 1 = .ok (.invokevirtual 311, 3) := by decide +kernel
theorem dX7_ticksToWakeup_4 : decode cX7_ticksToWakeup 4 = .ok (.istore_n 1, 1) := by decide +kernel
theorem dX7_ticksToWakeup_5 : decode cX7_ticksToWakeup 5 = .ok (.iload_n 1, 1) := by decide +kernel
theorem dX7_ticksToWakeup_6 : decode cX7_ticksToWakeup 6 = .ok (.iconst (-1), 1) := by decide +kernel
theorem dX7_ticksToWakeup_7 : decode cX7_ticksToWakeup 7 = .ok (.if_icmp .ne 8, 3) := by decide +kernel
theorem dX7_ticksToWakeup_10 : decode cX7_ticksToWakeup 10 = .ok (.ldc 180, 2) := by decide +kernel
theorem dX7_ticksToWakeup_12 : decode cX7_ticksToWakeup 12 = .ok (.goto 9, 3) := by decide +kernel
theorem dX7_ticksToWakeup_15 : decode cX7_ticksToWakeup 15 = .ok (.iload_n 1, 1) := by decide +kernel
theorem dX7_ticksToWakeup_16 : decode cX7_ticksToWakeup 16 = .ok (.aload_n 0, 1) := by decide +kernel
theorem dX7_ticksToWakeup_17 : decode cX7_ticksToWakeup 17 = .ok (.getfield 69, 3) := by decide +kernel
theorem dX7_ticksToWakeup_20 : decode cX7_ticksToWakeup 20 = .ok (.isub, 1) := by decide +kernel
theorem dX7_ticksToWakeup_21 : decode cX7_ticksToWakeup 21 = .ok (.ireturn, 1) := by decide +kernel
theorem dX7_isWithin_0 : decode cX7_isWithin 0 = .ok (.iload_n 0, 1) := by decide +kernel
theorem dX7_isWithin_1 : decode cX7_isWithin 1 = .ok (.iload_n 1, 1) := by decide +kernel
theorem dX7_isWithin_2 : decode cX7_isWithin 2 = .ok (.if_icmp .lt 12, 3) := by decide +kernel
theorem dX7_isWithin_5 : decode cX7_isWithin 5 = .ok (.iload_n 0, 1) := by decide +kernel
theorem dX7_isWithin_6 : decode cX7_isWithin 6 = .ok (.iload_n 2, 1) := by decide +kernel
theorem dX7_isWithin_7 : decode cX7_isWithin 7 = .ok (.if_icmp .gt 7, 3) := by decide +kernel
theorem dX7_isWithin_10 : decode cX7_isWithin 10 = .ok (.iconst 1, 1) := by decide +kernel
theorem dX7_isWithin_11 : decode cX7_isWithin 11 = .ok (.goto 4, 3) := by decide +kernel
theorem dX7_isWithin_14 : decode cX7_isWithin 14 = .ok (.iconst 0, 1) := by decide +kernel
theorem dX7_isWithin_15 : decode cX7_isWithin 15 = .ok (.ireturn, 1) := by decide +kernel
theorem dX7_read_0 : decode cX7_read 0 = .ok (.iload_n 1, 1) := by decide +kernel
theorem dX7_read_1 : decode cX7_read 1 = .ok (.ifCond .lt 15, 3) := by decide +kernel
theorem dX7_read_4 : decode cX7_read 4 = .ok (.iload_n 1, 1) := by decide +kernel
theorem dX7_read_5 : decode cX7_read 5 = .ok (.aload_n 0, 1) := by decide +kernel
theorem dX7_read_6 : decode cX7_read 6 = .ok (.arraylength, 1) := by decide +kernel
theorem dX7_read_7 : decode cX7_read 7 = .ok (.if_icmp .ge 9, 3) := by decide +kernel
theorem dX7_read_10 : decode cX7_read 10 = .ok (.aload_n 0, 1) := by decide +kernel
theorem dX7_read_11 : decode cX7_read 11 = .ok (.iload_n 1, 1) := by decide +kernel
theorem dX7_read_12 : decode cX7_read 12 = .ok (.iaload, 1) := by decide +kernel
theorem dX7_read_13 : decode cX7_read 13 = .ok (.goto 4, 3) := by decide +kernel
theorem dX7_read_16 : decode cX7_read 16 = .ok (.iconst 0, 1) := by decide +kernel
theorem dX7_read_17 : decode cX7_read 17 = .ok (.ireturn, 1) := by decide +kernel
theorem dX7_exchange_0 : decode cX7_exchange 0 = .ok (.iload_n 1, 1) := by decide +kernel
theorem dX7_exchange_1 : decode cX7_exchange 1 = .ok (.ifCond .lt 9, 3) := by decide +kernel
theorem dX7_exchange_4 : decode cX7_exchange 4 = .ok (.iload_n 1, 1) := by decide +kernel
theorem dX7_exchange_5 : decode cX7_exchange 5 = .ok (.aload_n 0, 1) := by decide +kernel
theorem dX7_exchange_6 : decode cX7_exchange 6 = .ok (.arraylength, 1) := by decide +kernel
theorem dX7_exchange_7 : decode cX7_exchange 7 = .ok (.if_icmp .lt 5, 3) := by decide +kernel
theorem dX7_exchange_10 : decode cX7_exchange 10 = .ok (.iconst 0, 1) := by decide +kernel
theorem dX7_exchange_11 : decode cX7_exchange 11 = .ok (.ireturn, 1) := by decide +kernel
theorem dX7_exchange_12 : decode cX7_exchange 12 = .ok (.aload_n 0, 1) := by decide +kernel
theorem dX7_exchange_13 : decode cX7_exchange 13 = .ok (.iload_n 1, 1) := by decide +kernel
theorem dX7_exchange_14 : decode cX7_exchange 14 = .ok (.iaload, 1) := by decide +kernel
theorem dX7_exchange_15 : decode cX7_exchange 15 = .ok (.istore_n 3, 1) := by decide +kernel
theorem dX7_exchange_16 : decode cX7_exchange 16 = .ok (.aload_n 0, 1) := by decide +kernel
theorem dX7_exchange_17 : decode cX7_exchange 17 = .ok (.iload_n 1, 1) := by decide +kernel
theorem dX7_exchange_18 : decode cX7_exchange 18 = .ok (.iload_n 2, 1) := by decide +kernel
theorem dX7_exchange_19 : decode cX7_exchange 19 = .ok (.iastore, 1) := by decide +kernel
theorem dX7_exchange_20 : decode cX7_exchange 20 = .ok (.iload_n 3, 1) := by decide +kernel
theorem dX7_exchange_21 : decode cX7_exchange 21 = .ok (.ireturn, 1) := by decide +kernel
