theorem dX0_init_0 : decode cX0_init 0 = .ok (.aload_n 0, 1) := by decide +kernel
theorem dX0_init_1 : decode cX0_init 1 = .ok (.invokespecial 3, 3) := by decide +kernel
theorem dX0_init_4 : decode cX0_init 4 = .ok (.aload_n 0, 1) := by decide +kernel
theorem dX0_init_5 : decode cX0_init 5 = .ok (.bipush 24, 2) := by decide +kernel
theorem dX0_init_7 : decode cX0_init 7 = .ok (.newarray .int, 2) := by decide +kernel
theorem dX0_init_9 : decode cX0_init 9 = .ok (.putfield 9, 3) := by decide +kernel
theorem dX0_init_12 : decode cX0_init 12 = .ok (.aload_n 0, 1) := by decide +kernel
theorem dX0_init_13 : decode cX0_init 13 = .ok (.ldc 15, 2) := by decide +kernel
theorem dX0_init_15 : decode cX0_init 15 = .ok (.putfield 16, 3) := by decide +kernel
theorem dX0_init_18 : decode cX0_init 18 = .ok (.aload_n 0, 1) := by decide +kernel
theorem dX0_init_19 : decode cX0_init 19 = .ok (.ldc 20, 2) := by decide +kernel
theorem dX0_init_21 : decode cX0_init 21 = .ok (.putfield 21, 3) := by decide +kernel
theorem dX0_init_24 : decode cX0_init 24 = .ok (.aload_n 0, 1) := by decide +kernel
theorem dX0_init_25 : decode cX0_init 25 = .ok (.iconst 0, 1) := by decide +kernel
theorem dX0_init_26 : decode cX0_init 26 = .ok (.putfield 24, 3) := by decide +kernel
theorem dX0_init_29 : decode cX0_init 29 = .ok (.return_, 1) := by decide +kernel
theorem dX0_takeTick_0 : decode cX0_takeTick 0 = .ok (.aload_n 0, 1) := by decide +kernel
theorem dX0_takeTick_1 : decode cX0_takeTick 1 = .ok (.getfield 16, 3) := by decide +kernel
theorem dX0_takeTick_4 : decode cX0_takeTick 4 = .ok (.aload_n 0, 1) := by decide +kernel
theorem dX0_takeTick_5 : decode cX0_takeTick 5 = .ok (.getfield 9, 3) := by decide +kernel
theorem dX0_takeTick_8 : decode cX0_takeTick 8 = .ok (.iload_n 1, 1) := by decide +kernel
theorem dX0_takeTick_9 : decode cX0_takeTick 9 = .ok (.invokestatic 27, 3) := by decide +kernel
theorem dX0_takeTick_12 : decode cX0_takeTick 12 = .ok (.iadd, 1) := by decide +kernel
theorem dX0_takeTick_13 : decode cX0_takeTick 13 = .ok (.i2l, 1) := by decide +kernel
theorem dX0_takeTick_14 : decode cX0_takeTick 14 = .ok (.lload_n 2, 1) := by decide +kernel
theorem dX0_takeTick_15 : decode cX0_takeTick 15 = .ok (.lsub, 1) := by decide +kernel
theorem dX0_takeTick_16 : decode cX0_takeTick 16 = .ok (.lstore 4, 2) := by decide +kernel
theorem dX0_takeTick_18 : decode cX0_takeTick 18 = .ok (.lload 4, 2) := by decide +kernel
theorem dX0_takeTick_20 : decode cX0_takeTick 20 = .ok (.lconst 0, 1) := by decide +kernel
theorem dX0_takeTick_21 : decode cX0_takeTick 21 = .ok (.lcmp, 1) := by decide +kernel
theorem dX0_takeTick_22 : decode cX0_takeTick 22 = .ok (.ifCond .ge 13, 3) := by decide +kernel
theorem dX0_takeTick_25 : decode cX0_takeTick 25 = .ok (.aload_n 0, 1) := by decide +kernel
theorem dX0_takeTick_26 : decode cX0_takeTick 26 = .ok (.dup, 1) := by decide +kernel
theorem dX0_takeTick_27 : decode cX0_takeTick 27 = .ok (.getfield 24, 3) := by decide +kernel
theorem dX0_takeTick_30 : decode cX0_takeTick 30 = .ok (.iconst 1, 1) := by decide +kernel
theorem dX0_takeTick_31 : decode cX0_takeTick 31 = .ok (.iadd, 1) := by decide +kernel
theorem dX0_takeTick_32 : decode cX0_takeTick 32 = .ok (.putfield 24, 3) := by decide +kernel
theorem dX0_takeTick_35 : decode cX0_takeTick 35 = .ok (.aload_n 0, 1) := by decide +kernel
theorem dX0_takeTick_36 : decode cX0_takeTick 36 = .ok (.lconst 0, 1) := by decide +kernel
theorem dX0_takeTick_37 : decode cX0_takeTick 37 = .ok (.lload 4, 2) := by decide +kernel
theorem dX0_takeTick_39 : decode cX0_takeTick 39 = .ok (.ldc2_w 31, 3) := by decide +kernel
theorem dX0_takeTick_42 : decode cX0_takeTick 42 = .ok (.invokestatic 33, 3) := by decide +kernel
theorem dX0_takeTick_45 : decode cX0_takeTick 45 = .ok (.invokestatic 39, 3) := by decide +kernel
theorem dX0_takeTick_48 : decode cX0_takeTick 48 = .ok (.l2i, 1) := by decide +kernel
theorem dX0_takeTick_49 : decode cX0_takeTick 49 = .ok (.putfield 16, 3) := by decide +kernel
theorem dX0_takeTick_52 : decode cX0_takeTick 52 = .ok (.aload_n 0, 1) := by decide +kernel
theorem dX0_takeTick_53 : decode cX0_takeTick 53 = .ok (.invokevirtual 42, 3) := by decide +kernel
theorem dX0_takeTick_56 : decode cX0_takeTick 56 = .ok (.return_, 1) := by decide +kernel
theorem dX0_balance_0 : decode cX0_balance 0 = .ok (.aload_n 0, 1) := by decide +kernel
theorem dX0_balance_1 : decode cX0_balance 1 = .ok (.getfield 21, 3) := by decide +kernel
theorem dX0_balance_4 : decode cX0_balance 4 = .ok (.iconst 2, 1) := by decide +kernel
theorem dX0_balance_5 : decode cX0_balance 5 = .ok (.idiv, 1) := by decide +kernel
theorem dX0_balance_6 : decode cX0_balance 6 = .ok (.aload_n 0, 1) := by decide +kernel
theorem dX0_balance_7 : decode cX0_balance 7 = .ok (.getfield 16, 3) := by decide +kernel
theorem dX0_balance_10 : decode cX0_balance 10 = .ok (.isub, 1) := by decide +kernel
theorem dX0_balance_11 : decode cX0_balance 11 = .ok (.bipush 16, 2) := by decide +kernel
theorem dX0_balance_13 : decode cX0_balance 13 = .ok (.invokestatic 45, 3) := by decide +kernel
theorem dX0_balance_16 : decode cX0_balance 16 = .ok (.istore_n 1, 1) := by decide +kernel
theorem dX0_balance_17 : decode cX0_balance 17 = .ok (.iload_n 1, 1) := by decide +kernel
theorem dX0_balance_18 : decode cX0_balance 18 = .ok (.ifCond .lt 25, 3) := by decide +kernel
theorem dX0_balance_21 : decode cX0_balance 21 = .ok (.iload_n 1, 1) := by decide +kernel
theorem dX0_balance_22 : decode cX0_balance 22 = .ok (.aload_n 0, 1) := by decide +kernel
theorem dX0_balance_23 : decode cX0_balance 23 = .ok (.getfield 21, 3) := by decide +kernel
theorem dX0_balance_26 : decode cX0_balance 26 = .ok (.ldc 15, 2) := by decide +kernel
theorem dX0_balance_28 : decode cX0_balance 28 = .ok (.aload_n 0, 1) := by decide +kernel
theorem dX0_balance_29 : decode cX0_balance 29 = .ok (.getfield 16, 3) := by decide +kernel
theorem dX0_balance_32 : decode cX0_balance 32 = .ok (.isub, 1) := by decide +kernel
theorem dX0_balance_33 : decode cX0_balance 33 = .ok (.invokestatic 49, 3) := by decide +kernel
theorem dX0_balance_36 : decode cX0_balance 36 = .ok (.invokestatic 49, 3) := by decide +kernel
theorem dX0_balance_39 : decode cX0_balance 39 = .ok (.istore_n 1, 1) := by decide +kernel
theorem dX0_balance_40 : decode cX0_balance 40 = .ok (.goto 24, 3) := by decide +kernel
theorem dX0_balance_43 : decode cX0_balance 43 = .ok (.iload_n 1, 1) := by decide +kernel
theorem dX0_balance_44 : decode cX0_balance 44 = .ok (.ineg, 1) := by decide +kernel
theorem dX0_balance_45 : decode cX0_balance 45 = .ok (.aload_n 0, 1) := by decide +kernel
theorem dX0_balance_46 : decode cX0_balance 46 = .ok (.getfield 16, 3) := by decide +kernel
theorem dX0_balance_49 : decode cX0_balance 49 = .ok (.ldc 20, 2) := by decide +kernel
theorem dX0_balance_51 : decode cX0_balance 51 = .ok (.aload_n 0, 1) := by decide +kernel
theorem dX0_balance_52 : decode cX0_balance 52 = .ok (.getfield 21, 3) := by decide +kernel
theorem dX0_balance_55 : decode cX0_balance 55 = .ok (.isub, 1) := by decide +kernel
theorem dX0_balance_56 : decode cX0_balance 56 = .ok (.invokestatic 49, 3) := by decide +kernel
theorem dX0_balance_59 : decode cX0_balance 59 = .ok (.invokestatic 49, 3) := by decide +kernel
theorem dX0_balance_62 : decode cX0_balance 62 = .ok (.ineg, 1) := by decide +kernel
theorem dX0_balance_63 : decode cX0_balance 63 = .ok (.istore_n 1, 1) := by decide +kernel
theorem dX0_balance_64 : decode cX0_balance 64 = .ok (.aload_n 0, 1) := by decide +kernel
theorem dX0_balance_65 : decode cX0_balance 65 = .ok (.dup, 1) := by decide +kernel
theorem dX0_balance_66 : decode cX0_balance 66 = .ok (.getfield 16, 3) := by decide +kernel
theorem dX0_balance_69 : decode cX0_balance 69 = .ok (.iload_n 1, 1) := by decide +kernel
theorem dX0_balance_70 : decode cX0_balance 70 = .ok (.iadd, 1) := by decide +kernel
theorem dX0_balance_71 : decode cX0_balance 71 = .ok (.putfield 16, 3) := by decide +kernel
theorem dX0_balance_74 : decode cX0_balance 74 = .ok (.aload_n 0, 1) := by decide +kernel
theorem dX0_balance_75 : decode cX0_balance 75 = .ok (.dup, 1) := by decide +kernel
theorem dX0_balance_76 : decode cX0_balance 76 = .ok (.getfield 21, 3) := by decide +kernel
theorem dX0_balance_79 : decode cX0_balance 79 = .ok (.iload_n 1, 1) := by decide +kernel
theorem dX0_balance_80 : decode cX0_balance 80 = .ok (.isub, 1) := by decide +kernel
theorem dX0_balance_81 : decode cX0_balance 81 = .ok (.putfield 21, 3) := by decide +kernel
theorem dX0_balance_84 : decode cX0_balance 84 = .ok (.return_, 1) := by decide +kernel
theorem dX1_init_0 : decode cX1_init 0 = .ok (.aload_n 0, 1) := by decide +kernel
theorem dX1_init_1 : decode cX1_init 1 = .ok (.invokespecial 3, 3) := by decide +kernel
theorem dX1_init_4 : decode cX1_init 4 = .ok (.aload_n 0, 1) := by decide +kernel
theorem dX1_init_5 : decode cX1_init 5 = .ok (.bipush 8, 2) := by decide +kernel
theorem dX1_init_7 : decode cX1_init 7 = .ok (.newarray .int, 2) := by decide +kernel
theorem dX1_init_9 : decode cX1_init 9 = .ok (.putfield 11, 3) := by decide +kernel
theorem dX1_init_12 : decode cX1_init 12 = .ok (.aload_n 0, 1) := by decide +kernel
theorem dX1_init_13 : decode cX1_init 13 = .ok (.bipush 8, 2) := by decide +kernel
theorem dX1_init_15 : decode cX1_init 15 = .ok (.newarray .int, 2) := by decide +kernel
theorem dX1_init_17 : decode cX1_init 17 = .ok (.putfield 15, 3) := by decide +kernel
theorem dX1_init_20 : decode cX1_init 20 = .ok (.aload_n 0, 1) := by decide +kernel
theorem dX1_init_21 : decode cX1_init 21 = .ok (.bipush 8, 2) := by decide +kernel
theorem dX1_init_23 : decode cX1_init 23 = .ok (.newarray .int, 2) := by decide +kernel
theorem dX1_init_25 : decode cX1_init 25 = .ok (.putfield 18, 3) := by decide +kernel
theorem dX1_init_28 : decode cX1_init 28 = .ok (.aload_n 0, 1) := by decide +kernel
theorem dX1_init_29 : decode cX1_init 29 = .ok (.bipush 8, 2) := by decide +kernel
theorem dX1_init_31 : decode cX1_init 31 = .ok (.newarray .int, 2) := by decide +kernel
theorem dX1_init_33 : decode cX1_init 33 = .ok (.putfield 21, 3) := by decide +kernel
theorem dX1_init_36 : decode cX1_init 36 = .ok (.aload_n 0, 1) := by decide +kernel
theorem dX1_init_37 : decode cX1_init 37 = .ok (.bipush 8, 2) := by decide +kernel
theorem dX1_init_39 : decode cX1_init 39 = .ok (.newarray .boolean, 2) := by decide +kernel
theorem dX1_init_41 : decode cX1_init 41 = .ok (.putfield 24, 3) := by decide +kernel
theorem dX1_init_44 : decode cX1_init 44 = .ok (.aload_n 0, 1) := by decide +kernel
theorem dX1_init_45 : decode cX1_init 45 = .ok (.getfield 11, 3) := by decide +kernel
theorem dX1_init_48 : decode cX1_init 48 = .ok (.iconst 0, 1) := by decide +kernel
theorem dX1_init_49 : decode cX1_init 49 = .ok (.iconst (-1), 1) := by decide +kernel
theorem dX1_init_50 : decode cX1_init 50 = .ok (.iastore, 1) := by decide +kernel
theorem dX1_init_51 : decode cX1_init 51 = .ok (.aload_n 0, 1) := by decide +kernel
theorem dX1_init_52 : decode cX1_init 52 = .ok (.getfield 15, 3) := by decide +kernel
theorem dX1_init_55 : decode cX1_init 55 = .ok (.iconst 0, 1) := by decide +kernel
theorem dX1_init_56 : decode cX1_init 56 = .ok (.sipush 4800, 3) := by decide +kernel
theorem dX1_init_59 : decode cX1_init 59 = .ok (.iastore, 1) := by decide +kernel
theorem dX1_init_60 : decode cX1_init 60 = .ok (.aload_n 0, 1) := by decide +kernel
theorem dX1_init_61 : decode cX1_init 61 = .ok (.getfield 18, 3) := by decide +kernel
theorem dX1_init_64 : decode cX1_init 64 = .ok (.iconst 0, 1) := by decide +kernel
theorem dX1_init_65 : decode cX1_init 65 = .ok (.iconst 3, 1) := by decide +kernel
theorem dX1_init_66 : decode cX1_init 66 = .ok (.iastore, 1) := by decide +kernel
theorem dX1_init_67 : decode cX1_init 67 = .ok (.aload_n 0, 1) := by decide +kernel
theorem dX1_init_68 : decode cX1_init 68 = .ok (.iconst 1, 1) := by decide +kernel
theorem dX1_init_69 : decode cX1_init 69 = .ok (.putfield 28, 3) := by decide +kernel
theorem dX1_init_72 : decode cX1_init 72 = .ok (.return_, 1) := by decide +kernel
theorem dX1_has_0 : decode cX1_has 0 = .ok (.iload_n 1, 1) := by decide +kernel
theorem dX1_has_1 : decode cX1_has 1 = .ok (.ifCond .lt 15, 3) := by decide +kernel
theorem dX1_has_4 : decode cX1_has 4 = .ok (.iload_n 1, 1) := by decide +kernel
theorem dX1_has_5 : decode cX1_has 5 = .ok (.aload_n 0, 1) := by decide +kernel
theorem dX1_has_6 : decode cX1_has 6 = .ok (.getfield 28, 3) := by decide +kernel
theorem dX1_has_9 : decode cX1_has 9 = .ok (.if_icmp .ge 7, 3) := by decide +kernel
theorem dX1_has_12 : decode cX1_has 12 = .ok (.iconst 1, 1) := by decide +kernel
theorem dX1_has_13 : decode cX1_has 13 = .ok (.goto 4, 3) := by decide +kernel
theorem dX1_has_16 : decode cX1_has 16 = .ok (.iconst 0, 1) := by decide +kernel
theorem dX1_has_17 : decode cX1_has 17 = .ok (.ireturn, 1) := by decide +kernel
theorem dX1_isFull_0 : decode cX1_isFull 0 = .ok (.aload_n 0, 1) := by decide +kernel
theorem dX1_isFull_1 : decode cX1_isFull 1 = .ok (.getfield 28, 3) := by decide +kernel
theorem dX1_isFull_4 : decode cX1_isFull 4 = .ok (.bipush 8, 2) := by decide +kernel
theorem dX1_isFull_6 : decode cX1_isFull 6 = .ok (.if_icmp .lt 7, 3) := by decide +kernel
theorem dX1_isFull_9 : decode cX1_isFull 9 = .ok (.iconst 1, 1) := by decide +kernel
theorem dX1_isFull_10 : decode cX1_isFull 10 = .ok (.goto 4, 3) := by decide +kernel
theorem dX1_isFull_13 : decode cX1_isFull 13 = .ok (.iconst 0, 1) := by decide +kernel
theorem dX1_isFull_14 : decode cX1_isFull 14 = .ok (.ireturn, 1) := by decide +kernel
theorem dX1_add_0 : decode cX1_add 0 = .ok (.aload_n 0, 1) := by decide +kernel
theorem dX1_add_1 : decode cX1_add 1 = .ok (.invokevirtual 32, 3) := by decide +kernel
theorem dX1_add_4 : decode cX1_add 4 = .ok (.ifCond .ne 7, 3) := by decide +kernel
theorem dX1_add_7 : decode cX1_add 7 = .ok (.iload_n 2, 1) := by decide +kernel
theorem dX1_add_8 : decode cX1_add 8 = .ok (.ifCond .gt 5, 3) := by decide +kernel
theorem dX1_add_11 : decode cX1_add 11 = .ok (.iconst (-1), 1) := by decide +kernel
theorem dX1_add_12 : decode cX1_add 12 = .ok (.ireturn, 1) := by decide +kernel
theorem dX1_add_13 : decode cX1_add 13 = .ok (.aload_n 0, 1) := by decide +kernel
theorem dX1_add_14 : decode cX1_add 14 = .ok (.getfield 11, 3) := by decide +kernel
theorem dX1_add_17 : decode cX1_add 17 = .ok (.aload_n 0, 1) := by decide +kernel
theorem dX1_add_18 : decode cX1_add 18 = .ok (.getfield 28, 3) := by decide +kernel
theorem dX1_add_21 : decode cX1_add 21 = .ok (.iload_n 1, 1) := by decide +kernel
theorem dX1_add_22 : decode cX1_add 22 = .ok (.iastore, 1) := by decide +kernel
theorem dX1_add_23 : decode cX1_add 23 = .ok (.aload_n 0, 1) := by decide +kernel
theorem dX1_add_24 : decode cX1_add 24 = .ok (.getfield 15, 3) := by decide +kernel
theorem dX1_add_27 : decode cX1_add 27 = .ok (.aload_n 0, 1) := by decide +kernel
theorem dX1_add_28 : decode cX1_add 28 = .ok (.getfield 28, 3) := by decide +kernel
theorem dX1_add_31 : decode cX1_add 31 = .ok (.aload_n 0, 1) := by decide +kernel
theorem dX1_add_32 : decode cX1_add 32 = .ok (.getfield 15, 3) := by decide +kernel
theorem dX1_add_35 : decode cX1_add 35 = .ok (.iload_n 1, 1) := by decide +kernel
theorem dX1_add_36 : decode cX1_add 36 = .ok (.invokestatic 36, 3) := by decide +kernel
theorem dX1_add_39 : decode cX1_add 39 = .ok (.iload_n 2, 1) := by decide +kernel
theorem dX1_add_40 : decode cX1_add 40 = .ok (.idiv, 1) := by decide +kernel
theorem dX1_add_41 : decode cX1_add 41 = .ok (.iastore, 1) := by decide +kernel
theorem dX1_add_42 : decode cX1_add 42 = .ok (.aload_n 0, 1) := by decide +kernel
theorem dX1_add_43 : decode cX1_add 43 = .ok (.getfield 18, 3) := by decide +kernel
theorem dX1_add_46 : decode cX1_add 46 = .ok (.aload_n 0, 1) := by decide +kernel
theorem dX1_add_47 : decode cX1_add 47 = .ok (.getfield 28, 3) := by decide +kernel
theorem dX1_add_50 : decode cX1_add 50 = .ok (.iload_n 3, 1) := by decide +kernel
theorem dX1_add_51 : decode cX1_add 51 = .ok (.iastore, 1) := by decide +kernel
theorem dX1_add_52 : decode cX1_add 52 = .ok (.aload_n 0, 1) := by decide +kernel
theorem dX1_add_53 : decode cX1_add 53 = .ok (.getfield 21, 3) := by decide +kernel
theorem dX1_add_56 : decode cX1_add 56 = .ok (.aload_n 0, 1) := by decide +kernel
theorem dX1_add_57 : decode cX1_add 57 = .ok (.getfield 28, 3) := by decide +kernel
theorem dX1_add_60 : decode cX1_add 60 = .ok (.iconst 0, 1) := by decide +kernel
theorem dX1_add_61 : decode cX1_add 61 = .ok (.iastore, 1) := by decide +kernel
theorem dX1_add_62 : decode cX1_add 62 = .ok (.aload_n 0, 1) := by decide +kernel
theorem dX1_add_63 : decode cX1_add 63 = .ok (.dup, 1) := by decide +kernel
theorem dX1_add_64 : decode cX1_add 64 = .ok (.getfield 28, 3) := by decide +kernel
theorem dX1_add_67 : decode cX1_add 67 = .ok (.iconst 1, 1) := by decide +kernel
theorem dX1_add_68 : decode cX1_add 68 = .ok (.iadd, 1) := by decide +kernel
theorem dX1_add_69 : decode cX1_add 69 = .ok (.putfield 28, 3) := by decide +kernel
theorem dX1_add_72 : decode cX1_add 72 = .ok (.aload_n 0, 1) := by decide +kernel
theorem dX1_add_73 : decode cX1_add 73 = .ok (.getfield 28, 3) := by decide +kernel
theorem dX1_add_76 : decode cX1_add 76 = .ok (.iconst 1, 1) := by decide +kernel
theorem dX1_add_77 : decode cX1_add 77 = .ok (.isub, 1) := by decide +kernel
theorem dX1_add_78 : decode cX1_add 78 = .ok (.ireturn, 1) := by decide +kernel
theorem dX1_usesOf_0 : decode cX1_usesOf 0 = .ok (.aload_n 0, 1) := by decide +kernel
theorem dX1_usesOf_1 : decode cX1_usesOf 1 = .ok (.getfield 21, 3) := by decide +kernel
theorem dX1_usesOf_4 : decode cX1_usesOf 4 = .ok (.iload_n 1, 1) := by decide +kernel
theorem dX1_usesOf_5 : decode cX1_usesOf 5 = .ok (.invokestatic 36, 3) := by decide +kernel
theorem dX1_usesOf_8 : decode cX1_usesOf 8 = .ok (.ireturn, 1) := by decide +kernel
theorem dX1_changeUses_0 : decode cX1_changeUses 0 = .ok (.aload_n 0, 1) := by decide +kernel
theorem dX1_changeUses_1 : decode cX1_changeUses 1 = .ok (.getfield 21, 3) := by decide +kernel
theorem dX1_changeUses_4 : decode cX1_changeUses 4 = .ok (.iload_n 1, 1) := by decide +kernel
theorem dX1_changeUses_5 : decode cX1_changeUses 5 = .ok (.aload_n 0, 1) := by decide +kernel
theorem dX1_changeUses_6 : decode cX1_changeUses 6 = .ok (.iload_n 1, 1) := by decide +kernel
theorem dX1_changeUses_7 : decode cX1_changeUses 7 = .ok (.invokevirtual 40, 3) := by decide +kernel
theorem dX1_changeUses_10 : decode cX1_changeUses 10 = .ok (.iload_n 2, 1) := by decide +kernel
theorem dX1_changeUses_11 : decode cX1_changeUses 11 = .ok (.iadd, 1) := by decide +kernel
theorem dX1_changeUses_12 : decode cX1_changeUses 12 = .ok (.invokestatic 44, 3) := by decide +kernel
theorem dX1_changeUses_15 : decode cX1_changeUses 15 = .ok (.pop, 1) := by decide +kernel
theorem dX1_changeUses_16 : decode cX1_changeUses 16 = .ok (.aload_n 0, 1) := by decide +kernel
theorem dX1_changeUses_17 : decode cX1_changeUses 17 = .ok (.iload_n 1, 1) := by decide +kernel
theorem dX1_changeUses_18 : decode cX1_changeUses 18 = .ok (.invokevirtual 40, 3) := by decide +kernel
theorem dX1_changeUses_21 : decode cX1_changeUses 21 = .ok (.ireturn, 1) := by decide +kernel
theorem dX1_isRunning_0 : decode cX1_isRunning 0 = .ok (.aload_n 0, 1) := by decide +kernel
theorem dX1_isRunning_1 : decode cX1_isRunning 1 = .ok (.invokevirtual 48, 3) := by decide +kernel
theorem dX1_isRunning_4 : decode cX1_isRunning 4 = .ok (.aload_n 0, 1) := by decide +kernel
theorem dX1_isRunning_5 : decode cX1_isRunning 5 = .ok (.iload_n 1, 1) := by decide +kernel
theorem dX1_isRunning_6 : decode cX1_isRunning 6 = .ok (.invokevirtual 51, 3) := by decide +kernel
theorem dX1_isRunning_9 : decode cX1_isRunning 9 = .ok (.ifCond .eq 16, 3) := by decide +kernel
theorem dX1_isRunning_12 : decode cX1_isRunning 12 = .ok (.aload_n 0, 1) := by decide +kernel
theorem dX1_isRunning_13 : decode cX1_isRunning 13 = .ok (.getfield 24, 3) := by decide +kernel
theorem dX1_isRunning_16 : decode cX1_isRunning 16 = .ok (.iload_n 1, 1) := by decide +kernel
theorem dX1_isRunning_17 : decode cX1_isRunning 17 = .ok (.baload, 1) := by decide +kernel
theorem dX1_isRunning_18 : decode cX1_isRunning 18 = .ok (.ifCond .eq 7, 3) := by decide +kernel
theorem dX1_isRunning_21 : decode cX1_isRunning 21 = .ok (.iconst 1, 1) := by decide +kernel
theorem dX1_isRunning_22 : decode cX1_isRunning 22 = .ok (.goto 4, 3) := by decide +kernel
theorem dX1_isRunning_25 : decode cX1_isRunning 25 = .ok (.iconst 0, 1) := by decide +kernel
theorem dX1_isRunning_26 : decode cX1_isRunning 26 = .ok (.ireturn, 1) := by decide +kernel
theorem dX1_leastDeepest_0 : decode cX1_leastDeepest 0 = .ok (.aload_n 0, 1) := by decide +kernel
theorem dX1_leastDeepest_1 : decode cX1_leastDeepest 1 = .ok (.invokevirtual 48, 3) := by decide +kernel
theorem dX1_leastDeepest_4 : decode cX1_leastDeepest 4 = .ok (.iconst 3, 1) := by decide +kernel
theorem dX1_leastDeepest_5 : decode cX1_leastDeepest 5 = .ok (.istore_n 1, 1) := by decide +kernel
theorem dX1_leastDeepest_6 : decode cX1_leastDeepest 6 = .ok (.iconst 0, 1) := by decide +kernel
theorem dX1_leastDeepest_7 : decode cX1_leastDeepest 7 = .ok (.istore_n 2, 1) := by decide +kernel
theorem dX1_leastDeepest_8 : decode cX1_leastDeepest 8 = .ok (.iload_n 2, 1) := by decide +kernel
theorem dX1_leastDeepest_9 : decode cX1_leastDeepest 9 = .ok (.aload_n 0, 1) := by decide +kernel
theorem dX1_leastDeepest_10 : decode cX1_leastDeepest 10 = .ok (.getfield 28, 3) := by decide +kernel
theorem dX1_leastDeepest_13 : decode cX1_leastDeepest 13 = .ok (.if_icmp .ge 29, 3) := by decide +kernel
theorem dX1_leastDeepest_16 : decode cX1_leastDeepest 16 = .ok (.aload_n 0, 1) := by decide +kernel
theorem dX1_leastDeepest_17 : decode cX1_leastDeepest 17 = .ok (.getfield 24, 3) := by decide +kernel
theorem dX1_leastDeepest_20 : decode cX1_leastDeepest 20 = .ok (.iload_n 2, 1) := by decide +kernel
theorem dX1_leastDeepest_21 : decode cX1_leastDeepest 21 = .ok (.baload, 1) := by decide +kernel
theorem dX1_leastDeepest_22 : decode cX1_leastDeepest 22 = .ok (.ifCond .eq 14, 3) := by decide +kernel
theorem dX1_leastDeepest_25 : decode cX1_leastDeepest 25 = .ok (.iload_n 1, 1) := by decide +kernel
theorem dX1_leastDeepest_26 : decode cX1_leastDeepest 26 = .ok (.aload_n 0, 1) := by decide +kernel
theorem dX1_leastDeepest_27 : decode cX1_leastDeepest 27 = .ok (.getfield 18, 3) := by decide +kernel
theorem dX1_leastDeepest_30 : decode cX1_leastDeepest 30 = .ok (.iload_n 2, 1) := by decide +kernel
theorem dX1_leastDeepest_31 : decode cX1_leastDeepest 31 = .ok (.iaload, 1) := by decide +kernel
theorem dX1_leastDeepest_32 : decode cX1_leastDeepest 32 = .ok (.invokestatic 55, 3) := by decide +kernel
theorem dX1_leastDeepest_35 : decode cX1_leastDeepest 35 = .ok (.istore_n 1, 1) := by decide +kernel
theorem dX1_leastDeepest_36 : decode cX1_leastDeepest 36 = .ok (.iinc 2 1, 3) := by decide +kernel
theorem dX1_leastDeepest_39 : decode cX1_leastDeepest 39 = .ok (.goto (-31), 3) := by decide +kernel
theorem dX1_leastDeepest_42 : decode cX1_leastDeepest 42 = .ok (.iload_n 1, 1) := by decide +kernel
theorem dX1_leastDeepest_43 : decode cX1_leastDeepest 43 = .ok (.ireturn, 1) := by decide +kernel
theorem dX1_markRunning_0 : decode cX1_markRunning 0 = .ok (.iconst 0, 1) := by decide +kernel
theorem dX1_markRunning_1 : decode cX1_markRunning 1 = .ok (.istore_n 1, 1) := by decide +kernel
theorem dX1_markRunning_2 : decode cX1_markRunning 2 = .ok (.iload_n 1, 1) := by decide +kernel
theorem dX1_markRunning_3 : decode cX1_markRunning 3 = .ok (.aload_n 0, 1) := by decide +kernel
theorem dX1_markRunning_4 : decode cX1_markRunning 4 = .ok (.getfield 28, 3) := by decide +kernel
theorem dX1_markRunning_7 : decode cX1_markRunning 7 = .ok (.if_icmp .ge 29, 3) := by decide +kernel
theorem dX1_markRunning_10 : decode cX1_markRunning 10 = .ok (.aload_n 0, 1) := by decide +kernel
theorem dX1_markRunning_11 : decode cX1_markRunning 11 = .ok (.getfield 24, 3) := by decide +kernel
theorem dX1_markRunning_14 : decode cX1_markRunning 14 = .ok (.iload_n 1, 1) := by decide +kernel
theorem dX1_markRunning_15 : decode cX1_markRunning 15 = .ok (.aload_n 0, 1) := by decide +kernel
theorem dX1_markRunning_16 : decode cX1_markRunning 16 = .ok (.getfield 21, 3) := by decide +kernel
theorem dX1_markRunning_19 : decode cX1_markRunning 19 = .ok (.iload_n 1, 1) := by decide +kernel
theorem dX1_markRunning_20 : decode cX1_markRunning 20 = .ok (.iaload, 1) := by decide +kernel
theorem dX1_markRunning_21 : decode cX1_markRunning 21 = .ok (.ifCond .le 7, 3) := by decide +kernel
theorem dX1_markRunning_24 : decode cX1_markRunning 24 = .ok (.iconst 1, 1) := by decide +kernel
theorem dX1_markRunning_25 : decode cX1_markRunning 25 = .ok (.goto 4, 3) := by decide +kernel
theorem dX1_markRunning_28 : decode cX1_markRunning 28 = .ok (.iconst 0, 1) := by decide +kernel
theorem dX1_markRunning_29 : decode cX1_markRunning 29 = .ok (.bastore, 1) := by decide +kernel
theorem dX1_markRunning_30 : decode cX1_markRunning 30 = .ok (.iinc 1 1, 3) := by decide +kernel
theorem dX1_markRunning_33 : decode cX1_markRunning 33 = .ok (.goto (-31), 3) := by decide +kernel
theorem dX1_markRunning_36 : decode cX1_markRunning 36 = .ok (.aload_n 0, 1) := by decide +kernel
theorem dX1_markRunning_37 : decode cX1_markRunning 37 = .ok (.getfield 28, 3) := by decide +kernel
theorem dX1_markRunning_40 : decode cX1_markRunning 40 = .ok (.iconst 1, 1) := by decide +kernel
theorem dX1_markRunning_41 : decode cX1_markRunning 41 = .ok (.isub, 1) := by decide +kernel
theorem dX1_markRunning_42 : decode cX1_markRunning 42 = .ok (.istore_n 1, 1) := by decide +kernel
theorem dX1_markRunning_43 : decode cX1_markRunning 43 = .ok (.iload_n 1, 1) := by decide +kernel
theorem dX1_markRunning_44 : decode cX1_markRunning 44 = .ok (.ifCond .le 43, 3) := by decide +kernel
theorem dX1_markRunning_47 : decode cX1_markRunning 47 = .ok (.aload_n 0, 1) := by decide +kernel
theorem dX1_markRunning_48 : decode cX1_markRunning 48 = .ok (.getfield 24, 3) := by decide +kernel
theorem dX1_markRunning_51 : decode cX1_markRunning 51 = .ok (.iload_n 1, 1) := by decide +kernel
theorem dX1_markRunning_52 : decode cX1_markRunning 52 = .ok (.baload, 1) := by decide +kernel
theorem dX1_markRunning_53 : decode cX1_markRunning 53 = .ok (.ifCond .eq 28, 3) := by decide +kernel
theorem dX1_markRunning_56 : decode cX1_markRunning 56 = .ok (.aload_n 0, 1) := by decide +kernel
theorem dX1_markRunning_57 : decode cX1_markRunning 57 = .ok (.aload_n 0, 1) := by decide +kernel
theorem dX1_markRunning_58 : decode cX1_markRunning 58 = .ok (.getfield 11, 3) := by decide +kernel
theorem dX1_markRunning_61 : decode cX1_markRunning 61 = .ok (.iload_n 1, 1) := by decide +kernel
theorem dX1_markRunning_62 : decode cX1_markRunning 62 = .ok (.iaload, 1) := by decide +kernel
theorem dX1_markRunning_63 : decode cX1_markRunning 63 = .ok (.invokevirtual 51, 3) := by decide +kernel
theorem dX1_markRunning_66 : decode cX1_markRunning 66 = .ok (.ifCond .eq 15, 3) := by decide +kernel
theorem dX1_markRunning_69 : decode cX1_markRunning 69 = .ok (.aload_n 0, 1) := by decide +kernel
theorem dX1_markRunning_70 : decode cX1_markRunning 70 = .ok (.getfield 24, 3) := by decide +kernel
theorem dX1_markRunning_73 : decode cX1_markRunning 73 = .ok (.aload_n 0, 1) := by decide +kernel
theorem dX1_markRunning_74 : decode cX1_markRunning 74 = .ok (.getfield 11, 3) := by decide +kernel
theorem dX1_markRunning_77 : decode cX1_markRunning 77 = .ok (.iload_n 1, 1) := by decide +kernel
theorem dX1_markRunning_78 : decode cX1_markRunning 78 = .ok (.iaload, 1) := by decide +kernel
theorem dX1_markRunning_79 : decode cX1_markRunning 79 = .ok (.iconst 1, 1) := by decide +kernel
theorem dX1_markRunning_80 : decode cX1_markRunning 80 = .ok (.bastore, 1) := by decide +kernel
theorem dX1_markRunning_81 : decode cX1_markRunning 81 = .ok (.iinc 1 (-1), 3) := by decide +kernel
theorem dX1_markRunning_84 : decode cX1_markRunning 84 = .ok (.goto (-41), 3) := by decide +kernel
theorem dX1_markRunning_87 : decode cX1_markRunning 87 = .ok (.return_, 1) := by decide +kernel
theorem dX2_init_0 : decode cX2_init 0 = .ok (.aload_n 0, 1) := by decide +kernel
theorem dX2_init_1 : decode cX2_init 1 = .ok (.invokespecial 3, 3) := by decide +kernel
theorem dX2_init_4 : decode cX2_init 4 = .ok (.aload_n 0, 1) := by decide +kernel
theorem dX2_init_5 : decode cX2_init 5 = .ok (.iconst 4, 1) := by decide +kernel
theorem dX2_init_6 : decode cX2_init 6 = .ok (.newarray .int, 2) := by decide +kernel
theorem dX2_init_8 : decode cX2_init 8 = .ok (.putfield 11, 3) := by decide +kernel
theorem dX2_init_11 : decode cX2_init 11 = .ok (.aload_n 0, 1) := by decide +kernel
theorem dX2_init_12 : decode cX2_init 12 = .ok (.iconst 0, 1) := by decide +kernel
theorem dX2_init_13 : decode cX2_init 13 = .ok (.putfield 15, 3) := by decide +kernel
theorem dX2_init_16 : decode cX2_init 16 = .ok (.return_, 1) := by decide +kernel
theorem dX2_remember_0 : decode cX2_remember 0 = .ok (.iconst 3, 1) := by decide +kernel
theorem dX2_remember_1 : decode cX2_remember 1 = .ok (.istore_n 2, 1) := by decide +kernel
theorem dX2_remember_2 : decode cX2_remember 2 = .ok (.iload_n 2, 1) := by decide +kernel
theorem dX2_remember_3 : decode cX2_remember 3 = .ok (.ifCond .le 23, 3) := by decide +kernel
theorem dX2_remember_6 : decode cX2_remember 6 = .ok (.aload_n 0, 1) := by decide +kernel
theorem dX2_remember_7 : decode cX2_remember 7 = .ok (.getfield 11, 3) := by decide +kernel
theorem dX2_remember_10 : decode cX2_remember 10 = .ok (.iload_n 2, 1) := by decide +kernel
theorem dX2_remember_11 : decode cX2_remember 11 = .ok (.aload_n 0, 1) := by decide +kernel
theorem dX2_remember_12 : decode cX2_remember 12 = .ok (.getfield 11, 3) := by decide +kernel
theorem dX2_remember_15 : decode cX2_remember 15 = .ok (.iload_n 2, 1) := by decide +kernel
theorem dX2_remember_16 : decode cX2_remember 16 = .ok (.iconst 1, 1) := by decide +kernel
theorem dX2_remember_17 : decode cX2_remember 17 = .ok (.isub, 1) := by decide +kernel
theorem dX2_remember_18 : decode cX2_remember 18 = .ok (.iaload, 1) := by decide +kernel
theorem dX2_remember_19 : decode cX2_remember 19 = .ok (.iastore, 1) := by decide +kernel
theorem dX2_remember_20 : decode cX2_remember 20 = .ok (.iinc 2 (-1), 3) := by decide +kernel
theorem dX2_remember_23 : decode cX2_remember 23 = .ok (.goto (-21), 3) := by decide +kernel
theorem dX2_remember_26 : decode cX2_remember 26 = .ok (.aload_n 0, 1) := by decide +kernel
theorem dX2_remember_27 : decode cX2_remember 27 = .ok (.getfield 11, 3) := by decide +kernel
theorem dX2_remember_30 : decode cX2_remember 30 = .ok (.iconst 0, 1) := by decide +kernel
theorem dX2_remember_31 : decode cX2_remember 31 = .ok (.iload_n 1, 1) := by decide +kernel
theorem dX2_remember_32 : decode cX2_remember 32 = .ok (.iastore, 1) := by decide +kernel
theorem dX2_remember_33 : decode cX2_remember 33 = .ok (.aload_n 0, 1) := by decide +kernel
theorem dX2_remember_34 : decode cX2_remember 34 = .ok (.aload_n 0, 1) := by decide +kernel
theorem dX2_remember_35 : decode cX2_remember 35 = .ok (.getfield 15, 3) := by decide +kernel
theorem dX2_remember_38 : decode cX2_remember 38 = .ok (.iconst 1, 1) := by decide +kernel
theorem dX2_remember_39 : decode cX2_remember 39 = .ok (.iadd, 1) := by decide +kernel
theorem dX2_remember_40 : decode cX2_remember 40 = .ok (.iconst 4, 1) := by decide +kernel
theorem dX2_remember_41 : decode cX2_remember 41 = .ok (.invokestatic 19, 3) := by decide +kernel
theorem dX2_remember_44 : decode cX2_remember 44 = .ok (.putfield 15, 3) := by decide +kernel
theorem dX2_remember_47 : decode cX2_remember 47 = .ok (.return_, 1) := by decide +kernel
theorem dX2_mean_0 : decode cX2_mean 0 = .ok (.aload_n 0, 1) := by decide +kernel
theorem dX2_mean_1 : decode cX2_mean 1 = .ok (.getfield 15, 3) := by decide +kernel
theorem dX2_mean_4 : decode cX2_mean 4 = .ok (.ifCond .gt 6, 3) := by decide +kernel
theorem dX2_mean_7 : decode cX2_mean 7 = .ok (.ldc 25, 2) := by decide +kernel
theorem dX2_mean_9 : decode cX2_mean 9 = .ok (.ireturn, 1) := by decide +kernel
theorem dX2_mean_10 : decode cX2_mean 10 = .ok (.iconst 0, 1) := by decide +kernel
theorem dX2_mean_11 : decode cX2_mean 11 = .ok (.istore_n 1, 1) := by decide +kernel
theorem dX2_mean_12 : decode cX2_mean 12 = .ok (.iconst 0, 1) := by decide +kernel
theorem dX2_mean_13 : decode cX2_mean 13 = .ok (.istore_n 2, 1) := by decide +kernel
theorem dX2_mean_14 : decode cX2_mean 14 = .ok (.iload_n 2, 1) := by decide +kernel
theorem dX2_mean_15 : decode cX2_mean 15 = .ok (.aload_n 0, 1) := by decide +kernel
theorem dX2_mean_16 : decode cX2_mean 16 = .ok (.getfield 15, 3) := by decide +kernel
theorem dX2_mean_19 : decode cX2_mean 19 = .ok (.if_icmp .ge 18, 3) := by decide +kernel
theorem dX2_mean_22 : decode cX2_mean 22 = .ok (.iload_n 1, 1) := by decide +kernel
theorem dX2_mean_23 : decode cX2_mean 23 = .ok (.aload_n 0, 1) := by decide +kernel
theorem dX2_mean_24 : decode cX2_mean 24 = .ok (.getfield 11, 3) := by decide +kernel
theorem dX2_mean_27 : decode cX2_mean 27 = .ok (.iload_n 2, 1) := by decide +kernel
theorem dX2_mean_28 : decode cX2_mean 28 = .ok (.iaload, 1) := by decide +kernel
theorem dX2_mean_29 : decode cX2_mean 29 = .ok (.iadd, 1) := by decide +kernel
theorem dX2_mean_30 : decode cX2_mean 30 = .ok (.istore_n 1, 1) := by decide +kernel
theorem dX2_mean_31 : decode cX2_mean 31 = .ok (.iinc 2 1, 3) := by decide +kernel
theorem dX2_mean_34 : decode cX2_mean 34 = .ok (.goto (-20), 3) := by decide +kernel
theorem dX2_mean_37 : decode cX2_mean 37 = .ok (.iload_n 1, 1) := by decide +kernel
theorem dX2_mean_38 : decode cX2_mean 38 = .ok (.aload_n 0, 1) := by decide +kernel
theorem dX2_mean_39 : decode cX2_mean 39 = .ok (.getfield 15, 3) := by decide +kernel
theorem dX2_mean_42 : decode cX2_mean 42 = .ok (.idiv, 1) := by decide +kernel
theorem dX2_mean_43 : decode cX2_mean 43 = .ok (.ireturn, 1) := by decide +kernel
theorem dX3_init_0 : decode cX3_init 0 = .ok (.aload_n 0, 1) := by decide +kernel
theorem dX3_init_1 : decode cX3_init 1 = .ok (.invokespecial 3, 3) := by decide +kernel
theorem dX3_init_4 : decode cX3_init 4 = .ok (.aload_n 0, 1) := by decide +kernel
theorem dX3_init_5 : decode cX3_init 5 = .ok (.bipush 12, 2) := by decide +kernel
theorem dX3_init_7 : decode cX3_init 7 = .ok (.newarray .int, 2) := by decide +kernel
theorem dX3_init_9 : decode cX3_init 9 = .ok (.putfield 11, 3) := by decide +kernel
theorem dX3_init_12 : decode cX3_init 12 = .ok (.aload_n 0, 1) := by decide +kernel
theorem dX3_init_13 : decode cX3_init 13 = .ok (.bipush 12, 2) := by decide +kernel
theorem dX3_init_15 : decode cX3_init 15 = .ok (.newarray .int, 2) := by decide +kernel
theorem dX3_init_17 : decode cX3_init 17 = .ok (.putfield 15, 3) := by decide +kernel
theorem dX3_init_20 : decode cX3_init 20 = .ok (.aload_n 0, 1) := by decide +kernel
theorem dX3_init_21 : decode cX3_init 21 = .ok (.bipush 12, 2) := by decide +kernel
theorem dX3_init_23 : decode cX3_init 23 = .ok (.newarray .int, 2) := by decide +kernel
theorem dX3_init_25 : decode cX3_init 25 = .ok (.putfield 18, 3) := by decide +kernel
theorem dX3_init_28 : decode cX3_init 28 = .ok (.aload_n 0, 1) := by decide +kernel
theorem dX3_init_29 : decode cX3_init 29 = .ok (.iconst 0, 1) := by decide +kernel
theorem dX3_init_30 : decode cX3_init 30 = .ok (.putfield 21, 3) := by decide +kernel
theorem dX3_init_33 : decode cX3_init 33 = .ok (.return_, 1) := by decide +kernel
theorem dX3_isFull_0 : decode cX3_isFull 0 = .ok (.aload_n 0, 1) := by decide +kernel
theorem dX3_isFull_1 : decode cX3_isFull 1 = .ok (.getfield 21, 3) := by decide +kernel
theorem dX3_isFull_4 : decode cX3_isFull 4 = .ok (.bipush 12, 2) := by decide +kernel
theorem dX3_isFull_6 : decode cX3_isFull 6 = .ok (.if_icmp .lt 7, 3) := by decide +kernel
theorem dX3_isFull_9 : decode cX3_isFull 9 = .ok (.iconst 1, 1) := by decide +kernel
theorem dX3_isFull_10 : decode cX3_isFull 10 = .ok (.goto 4, 3) := by decide +kernel
theorem dX3_isFull_13 : decode cX3_isFull 13 = .ok (.iconst 0, 1) := by decide +kernel
theorem dX3_isFull_14 : decode cX3_isFull 14 = .ok (.ireturn, 1) := by decide +kernel
theorem dX3_add_0 : decode cX3_add 0 = .ok (.aload_n 0, 1) := by decide +kernel
theorem dX3_add_1 : decode cX3_add 1 = .ok (.invokevirtual 25, 3) := by decide +kernel
theorem dX3_add_4 : decode cX3_add 4 = .ok (.ifCond .eq 8, 3) := by decide +kernel
theorem dX3_add_7 : decode cX3_add 7 = .ok (.aload_n 0, 1) := by decide +kernel
theorem dX3_add_8 : decode cX3_add 8 = .ok (.getfield 21, 3) := by decide +kernel
theorem dX3_add_11 : decode cX3_add 11 = .ok (.ireturn, 1) := by decide +kernel
theorem dX3_add_12 : decode cX3_add 12 = .ok (.aload_n 0, 1) := by decide +kernel
theorem dX3_add_13 : decode cX3_add 13 = .ok (.getfield 11, 3) := by decide +kernel
theorem dX3_add_16 : decode cX3_add 16 = .ok (.aload_n 0, 1) := by decide +kernel
theorem dX3_add_17 : decode cX3_add 17 = .ok (.getfield 21, 3) := by decide +kernel
theorem dX3_add_20 : decode cX3_add 20 = .ok (.iload_n 1, 1) := by decide +kernel
theorem dX3_add_21 : decode cX3_add 21 = .ok (.iastore, 1) := by decide +kernel
theorem dX3_add_22 : decode cX3_add 22 = .ok (.aload_n 0, 1) := by decide +kernel
theorem dX3_add_23 : decode cX3_add 23 = .ok (.getfield 15, 3) := by decide +kernel
theorem dX3_add_26 : decode cX3_add 26 = .ok (.aload_n 0, 1) := by decide +kernel
theorem dX3_add_27 : decode cX3_add 27 = .ok (.getfield 21, 3) := by decide +kernel
theorem dX3_add_30 : decode cX3_add 30 = .ok (.iload_n 2, 1) := by decide +kernel
theorem dX3_add_31 : decode cX3_add 31 = .ok (.iastore, 1) := by decide +kernel
theorem dX3_add_32 : decode cX3_add 32 = .ok (.aload_n 0, 1) := by decide +kernel
theorem dX3_add_33 : decode cX3_add 33 = .ok (.getfield 18, 3) := by decide +kernel
theorem dX3_add_36 : decode cX3_add 36 = .ok (.aload_n 0, 1) := by decide +kernel
theorem dX3_add_37 : decode cX3_add 37 = .ok (.getfield 21, 3) := by decide +kernel
theorem dX3_add_40 : decode cX3_add 40 = .ok (.iload_n 3, 1) := by decide +kernel
theorem dX3_add_41 : decode cX3_add 41 = .ok (.iastore, 1) := by decide +kernel
theorem dX3_add_42 : decode cX3_add 42 = .ok (.aload_n 0, 1) := by decide +kernel
theorem dX3_add_43 : decode cX3_add 43 = .ok (.dup, 1) := by decide +kernel
theorem dX3_add_44 : decode cX3_add 44 = .ok (.getfield 21, 3) := by decide +kernel
theorem dX3_add_47 : decode cX3_add 47 = .ok (.iconst 1, 1) := by decide +kernel
theorem dX3_add_48 : decode cX3_add 48 = .ok (.iadd, 1) := by decide +kernel
theorem dX3_add_49 : decode cX3_add 49 = .ok (.putfield 21, 3) := by decide +kernel
theorem dX3_add_52 : decode cX3_add 52 = .ok (.aload_n 0, 1) := by decide +kernel
theorem dX3_add_53 : decode cX3_add 53 = .ok (.getfield 21, 3) := by decide +kernel
theorem dX3_add_56 : decode cX3_add 56 = .ok (.ireturn, 1) := by decide +kernel
theorem dX3_isAnyDue_0 : decode cX3_isAnyDue 0 = .ok (.iconst 0, 1) := by decide +kernel
theorem dX3_isAnyDue_1 : decode cX3_isAnyDue 1 = .ok (.istore_n 2, 1) := by decide +kernel
theorem dX3_isAnyDue_2 : decode cX3_isAnyDue 2 = .ok (.iload_n 2, 1) := by decide +kernel
theorem dX3_isAnyDue_3 : decode cX3_isAnyDue 3 = .ok (.aload_n 0, 1) := by decide +kernel
theorem dX3_isAnyDue_4 : decode cX3_isAnyDue 4 = .ok (.getfield 21, 3) := by decide +kernel
theorem dX3_isAnyDue_7 : decode cX3_isAnyDue 7 = .ok (.if_icmp .ge 21, 3) := by decide +kernel
theorem dX3_isAnyDue_10 : decode cX3_isAnyDue 10 = .ok (.aload_n 0, 1) := by decide +kernel
theorem dX3_isAnyDue_11 : decode cX3_isAnyDue 11 = .ok (.getfield 11, 3) := by decide +kernel
theorem dX3_isAnyDue_14 : decode cX3_isAnyDue 14 = .ok (.iload_n 2, 1) := by decide +kernel
theorem dX3_isAnyDue_15 : decode cX3_isAnyDue 15 = .ok (.iaload, 1) := by decide +kernel
theorem dX3_isAnyDue_16 : decode cX3_isAnyDue 16 = .ok (.iload_n 1, 1) := by decide +kernel
theorem dX3_isAnyDue_17 : decode cX3_isAnyDue 17 = .ok (.if_icmp .gt 5, 3) := by decide +kernel
theorem dX3_isAnyDue_20 : decode cX3_isAnyDue 20 = .ok (.iconst 1, 1) := by decide +kernel
theorem dX3_isAnyDue_21 : decode cX3_isAnyDue 21 = .ok (.ireturn, 1) := by decide +kernel
theorem dX3_isAnyDue_22 : decode cX3_isAnyDue 22 = .ok (.iinc 2 1, 3) := by decide +kernel
theorem dX3_isAnyDue_25 : decode cX3_isAnyDue 25 = .ok (.goto (-23), 3) := by decide +kernel
theorem dX3_isAnyDue_28 : decode cX3_isAnyDue 28 = .ok (.iconst 0, 1) := by decide +kernel
theorem dX3_isAnyDue_29 : decode cX3_isAnyDue 29 = .ok (.ireturn, 1) := by decide +kernel
theorem dX3_takeDue_0 : decode cX3_takeDue 0 = .ok (.iconst 0, 1) := by decide +kernel
theorem dX3_takeDue_1 : decode cX3_takeDue 1 = .ok (.istore_n 2, 1) := by decide +kernel
theorem dX3_takeDue_2 : decode cX3_takeDue 2 = .ok (.iconst 0, 1) := by decide +kernel
theorem dX3_takeDue_3 : decode cX3_takeDue 3 = .ok (.istore_n 3, 1) := by decide +kernel
theorem dX3_takeDue_4 : decode cX3_takeDue 4 = .ok (.iconst 0, 1) := by decide +kernel
theorem dX3_takeDue_5 : decode cX3_takeDue 5 = .ok (.istore 4, 2) := by decide +kernel
theorem dX3_takeDue_7 : decode cX3_takeDue 7 = .ok (.iload 4, 2) := by decide +kernel
theorem dX3_takeDue_9 : decode cX3_takeDue 9 = .ok (.aload_n 0, 1) := by decide +kernel
theorem dX3_takeDue_10 : decode cX3_takeDue 10 = .ok (.getfield 21, 3) := by decide +kernel
theorem dX3_takeDue_13 : decode cX3_takeDue 13 = .ok (.if_icmp .ge 75, 3) := by decide +kernel
theorem dX3_takeDue_16 : decode cX3_takeDue 16 = .ok (.aload_n 0, 1) := by decide +kernel
theorem dX3_takeDue_17 : decode cX3_takeDue 17 = .ok (.getfield 11, 3) := by decide +kernel
theorem dX3_takeDue_20 : decode cX3_takeDue 20 = .ok (.iload 4, 2) := by decide +kernel
theorem dX3_takeDue_22 : decode cX3_takeDue 22 = .ok (.iaload, 1) := by decide +kernel
theorem dX3_takeDue_23 : decode cX3_takeDue 23 = .ok (.iload_n 1, 1) := by decide +kernel
theorem dX3_takeDue_24 : decode cX3_takeDue 24 = .ok (.if_icmp .gt 16, 3) := by decide +kernel
theorem dX3_takeDue_27 : decode cX3_takeDue 27 = .ok (.iload_n 2, 1) := by decide +kernel
theorem dX3_takeDue_28 : decode cX3_takeDue 28 = .ok (.aload_n 0, 1) := by decide +kernel
theorem dX3_takeDue_29 : decode cX3_takeDue 29 = .ok (.getfield 18, 3) := by decide +kernel
theorem dX3_takeDue_32 : decode cX3_takeDue 32 = .ok (.iload 4, 2) := by decide +kernel
theorem dX3_takeDue_34 : decode cX3_takeDue 34 = .ok (.iaload, 1) := by decide +kernel
theorem dX3_takeDue_35 : decode cX3_takeDue 35 = .ok (.iadd, 1) := by decide +kernel
theorem dX3_takeDue_36 : decode cX3_takeDue 36 = .ok (.istore_n 2, 1) := by decide +kernel
theorem dX3_takeDue_37 : decode cX3_takeDue 37 = .ok (.goto 45, 3) := by decide +kernel
theorem dX3_takeDue_40 : decode cX3_takeDue 40 = .ok (.aload_n 0, 1) := by decide +kernel
theorem dX3_takeDue_41 : decode cX3_takeDue 41 = .ok (.getfield 11, 3) := by decide +kernel
theorem dX3_takeDue_44 : decode cX3_takeDue 44 = .ok (.iload_n 3, 1) := by decide +kernel
theorem dX3_takeDue_45 : decode cX3_takeDue 45 = .ok (.aload_n 0, 1) := by decide +kernel
theorem dX3_takeDue_46 : decode cX3_takeDue 46 = .ok (.getfield 11, 3) := by decide +kernel
theorem dX3_takeDue_49 : decode cX3_takeDue 49 = .ok (.iload 4, 2) := by decide +kernel
theorem dX3_takeDue_51 : decode cX3_takeDue 51 = .ok (.iaload, 1) := by decide +kernel
theorem dX3_takeDue_52 : decode cX3_takeDue 52 = .ok (.iastore, 1) := by decide +kernel
theorem dX3_takeDue_53 : decode cX3_takeDue 53 = .ok (.aload_n 0, 1) := by decide +kernel
theorem dX3_takeDue_54 : decode cX3_takeDue 54 = .ok (.getfield 15, 3) := by decide +kernel
theorem dX3_takeDue_57 : decode cX3_takeDue 57 = .ok (.iload_n 3, 1) := by decide +kernel
theorem dX3_takeDue_58 : decode cX3_takeDue 58 = .ok (.aload_n 0, 1) := by decide +kernel
theorem dX3_takeDue_59 : decode cX3_takeDue 59 = .ok (.getfield 15, 3) := by decide +kernel
theorem dX3_takeDue_62 : decode cX3_takeDue 62 = .ok (.iload 4, 2) := by decide +kernel
theorem dX3_takeDue_64 : decode cX3_takeDue 64 = .ok (.iaload, 1) := by decide +kernel
theorem dX3_takeDue_65 : decode cX3_takeDue 65 = .ok (.iastore, 1) := by decide +kernel
theorem dX3_takeDue_66 : decode cX3_takeDue 66 = .ok (.aload_n 0, 1) := by decide +kernel
theorem dX3_takeDue_67 : decode cX3_takeDue 67 = .ok (.getfield 18, 3) := by decide +kernel
theorem dX3_takeDue_70 : decode cX3_takeDue 70 = .ok (.iload_n 3, 1) := by decide +kernel
theorem dX3_takeDue_71 : decode cX3_takeDue 71 = .ok (.aload_n 0, 1) := by decide +kernel
theorem dX3_takeDue_72 : decode cX3_takeDue 72 = .ok (.getfield 18, 3) := by decide +kernel
theorem dX3_takeDue_75 : decode cX3_takeDue 75 = .ok (.iload 4, 2) := by decide +kernel
theorem dX3_takeDue_77 : decode cX3_takeDue 77 = .ok (.iaload, 1) := by decide +kernel
theorem dX3_takeDue_78 : decode cX3_takeDue 78 = .ok (.iastore, 1) := by decide +kernel
theorem dX3_takeDue_79 : decode cX3_takeDue 79 = .ok (.iinc 3 1, 3) := by decide +kernel
theorem dX3_takeDue_82 : decode cX3_takeDue 82 = .ok (.iinc 4 1, 3) := by decide +kernel
theorem dX3_takeDue_85 : decode cX3_takeDue 85 = .ok (.goto (-78), 3) := by decide +kernel
theorem dX3_takeDue_88 : decode cX3_takeDue 88 = .ok (.aload_n 0, 1) := by decide +kernel
theorem dX3_takeDue_89 : decode cX3_takeDue 89 = .ok (.iload_n 3, 1) := by decide +kernel
theorem dX3_takeDue_90 : decode cX3_takeDue 90 = .ok (.putfield 21, 3) := by decide +kernel
theorem dX3_takeDue_93 : decode cX3_takeDue 93 = .ok (.iload_n 2, 1) := by decide +kernel
theorem dX3_takeDue_94 : decode cX3_takeDue 94 = .ok (.ireturn, 1) := by decide +kernel
theorem dX3_leastLatest_0 : decode cX3_leastLatest 0 = .ok (.iconst (-1), 1) := by decide +kernel
theorem dX3_leastLatest_1 : decode cX3_leastLatest 1 = .ok (.istore_n 3, 1) := by decide +kernel
theorem dX3_leastLatest_2 : decode cX3_leastLatest 2 = .ok (.iconst 0, 1) := by decide +kernel
theorem dX3_leastLatest_3 : decode cX3_leastLatest 3 = .ok (.istore 4, 2) := by decide +kernel
theorem dX3_leastLatest_5 : decode cX3_leastLatest 5 = .ok (.iload 4, 2) := by decide +kernel
theorem dX3_leastLatest_7 : decode cX3_leastLatest 7 = .ok (.aload_n 0, 1) := by decide +kernel
theorem dX3_leastLatest_8 : decode cX3_leastLatest 8 = .ok (.getfield 21, 3) := by decide +kernel
theorem dX3_leastLatest_11 : decode cX3_leastLatest 11 = .ok (.if_icmp .ge 67, 3) := by decide +kernel
theorem dX3_leastLatest_14 : decode cX3_leastLatest 14 = .ok (.aload_n 0, 1) := by decide +kernel
theorem dX3_leastLatest_15 : decode cX3_leastLatest 15 = .ok (.getfield 11, 3) := by decide +kernel
theorem dX3_leastLatest_18 : decode cX3_leastLatest 18 = .ok (.iload 4, 2) := by decide +kernel
theorem dX3_leastLatest_20 : decode cX3_leastLatest 20 = .ok (.iaload, 1) := by decide +kernel
theorem dX3_leastLatest_21 : decode cX3_leastLatest 21 = .ok (.iload_n 1, 1) := by decide +kernel
theorem dX3_leastLatest_22 : decode cX3_leastLatest 22 = .ok (.if_icmp .le 18, 3) := by decide +kernel
theorem dX3_leastLatest_25 : decode cX3_leastLatest 25 = .ok (.aload_n 0, 1) := by decide +kernel
theorem dX3_leastLatest_26 : decode cX3_leastLatest 26 = .ok (.getfield 15, 3) := by decide +kernel
theorem dX3_leastLatest_29 : decode cX3_leastLatest 29 = .ok (.iload 4, 2) := by decide +kernel
theorem dX3_leastLatest_31 : decode cX3_leastLatest 31 = .ok (.iaload, 1) := by decide +kernel
theorem dX3_leastLatest_32 : decode cX3_leastLatest 32 = .ok (.iload_n 2, 1) := by decide +kernel
theorem dX3_leastLatest_33 : decode cX3_leastLatest 33 = .ok (.if_icmp .ge 7, 3) := by decide +kernel
theorem dX3_leastLatest_36 : decode cX3_leastLatest 36 = .ok (.iconst 1, 1) := by decide +kernel
theorem dX3_leastLatest_37 : decode cX3_leastLatest 37 = .ok (.goto 4, 3) := by decide +kernel
theorem dX3_leastLatest_40 : decode cX3_leastLatest 40 = .ok (.iconst 0, 1) := by decide +kernel
theorem dX3_leastLatest_41 : decode cX3_leastLatest 41 = .ok (.istore 5, 2) := by decide +kernel
theorem dX3_leastLatest_43 : decode cX3_leastLatest 43 = .ok (.iload 5, 2) := by decide +kernel
theorem dX3_leastLatest_45 : decode cX3_leastLatest 45 = .ok (.ifCond .eq 27, 3) := by decide +kernel
theorem dX3_leastLatest_48 : decode cX3_leastLatest 48 = .ok (.iload_n 3, 1) := by decide +kernel
theorem dX3_leastLatest_49 : decode cX3_leastLatest 49 = .ok (.iconst (-1), 1) := by decide +kernel
theorem dX3_leastLatest_50 : decode cX3_leastLatest 50 = .ok (.if_icmp .eq 14, 3) := by decide +kernel
theorem dX3_leastLatest_53 : decode cX3_leastLatest 53 = .ok (.aload_n 0, 1) := by decide +kernel
theorem dX3_leastLatest_54 : decode cX3_leastLatest 54 = .ok (.getfield 15, 3) := by decide +kernel
theorem dX3_leastLatest_57 : decode cX3_leastLatest 57 = .ok (.iload 4, 2) := by decide +kernel
theorem dX3_leastLatest_59 : decode cX3_leastLatest 59 = .ok (.iaload, 1) := by decide +kernel
theorem dX3_leastLatest_60 : decode cX3_leastLatest 60 = .ok (.iload_n 3, 1) := by decide +kernel
theorem dX3_leastLatest_61 : decode cX3_leastLatest 61 = .ok (.if_icmp .ge 11, 3) := by decide +kernel
theorem dX3_leastLatest_64 : decode cX3_leastLatest 64 = .ok (.aload_n 0, 1) := by decide +kernel
theorem dX3_leastLatest_65 : decode cX3_leastLatest 65 = .ok (.getfield 15, 3) := by decide +kernel
theorem dX3_leastLatest_68 : decode cX3_leastLatest 68 = .ok (.iload 4, 2) := by decide +kernel
theorem dX3_leastLatest_70 : decode cX3_leastLatest 70 = .ok (.iaload, 1) := by decide +kernel
theorem dX3_leastLatest_71 : decode cX3_leastLatest 71 = .ok (.istore_n 3, 1) := by decide +kernel
theorem dX3_leastLatest_72 : decode cX3_leastLatest 72 = .ok (.iinc 4 1, 3) := by decide +kernel
theorem dX3_leastLatest_75 : decode cX3_leastLatest 75 = .ok (.goto (-70), 3) := by decide +kernel
theorem dX3_leastLatest_78 : decode cX3_leastLatest 78 = .ok (.iload_n 3, 1) := by decide +kernel
theorem dX3_leastLatest_79 : decode cX3_leastLatest 79 = .ok (.ireturn, 1) := by decide +kernel
theorem dX4_init_0 : decode cX4_init 0 = .ok (.aload_n 0, 1) := by decide +kernel
theorem dX4_init_1 : decode cX4_init 1 = .ok (.invokespecial 3, 3) := by decide +kernel
theorem dX4_init_4 : decode cX4_init 4 = .ok (.aload_n 0, 1) := by decide +kernel
theorem dX4_init_5 : decode cX4_init 5 = .ok (.iconst 4, 1) := by decide +kernel
theorem dX4_init_6 : decode cX4_init 6 = .ok (.newarray .int, 2) := by decide +kernel
theorem dX4_init_8 : decode cX4_init 8 = .ok (.putfield 9, 3) := by decide +kernel
theorem dX4_init_11 : decode cX4_init 11 = .ok (.aload_n 0, 1) := by decide +kernel
theorem dX4_init_12 : decode cX4_init 12 = .ok (.lconst 0, 1) := by decide +kernel
theorem dX4_init_13 : decode cX4_init 13 = .ok (.putfield 15, 3) := by decide +kernel
theorem dX4_init_16 : decode cX4_init 16 = .ok (.aload_n 0, 1) := by decide +kernel
theorem dX4_init_17 : decode cX4_init 17 = .ok (.lconst 0, 1) := by decide +kernel
theorem dX4_init_18 : decode cX4_init 18 = .ok (.putfield 19, 3) := by decide +kernel
theorem dX4_init_21 : decode cX4_init 21 = .ok (.aload_n 0, 1) := by decide +kernel
theorem dX4_init_22 : decode cX4_init 22 = .ok (.iconst 0, 1) := by decide +kernel
theorem dX4_init_23 : decode cX4_init 23 = .ok (.putfield 22, 3) := by decide +kernel
theorem dX4_init_26 : decode cX4_init 26 = .ok (.aload_n 0, 1) := by decide +kernel
theorem dX4_init_27 : decode cX4_init 27 = .ok (.iconst 0, 1) := by decide +kernel
theorem dX4_init_28 : decode cX4_init 28 = .ok (.putfield 26, 3) := by decide +kernel
theorem dX4_init_31 : decode cX4_init 31 = .ok (.aload_n 0, 1) := by decide +kernel
theorem dX4_init_32 : decode cX4_init 32 = .ok (.iconst 0, 1) := by decide +kernel
theorem dX4_init_33 : decode cX4_init 33 = .ok (.putfield 29, 3) := by decide +kernel
theorem dX4_init_36 : decode cX4_init 36 = .ok (.return_, 1) := by decide +kernel
theorem dX4_spend_0 : decode cX4_spend 0 = .ok (.aload_n 0, 1) := by decide +kernel
theorem dX4_spend_1 : decode cX4_spend 1 = .ok (.dup, 1) := by decide +kernel
theorem dX4_spend_2 : decode cX4_spend 2 = .ok (.getfield 15, 3) := by decide +kernel
theorem dX4_spend_5 : decode cX4_spend 5 = .ok (.lload_n 1, 1) := by decide +kernel
theorem dX4_spend_6 : decode cX4_spend 6 = .ok (.ladd, 1) := by decide +kernel
theorem dX4_spend_7 : decode cX4_spend 7 = .ok (.putfield 15, 3) := by decide +kernel
theorem dX4_spend_10 : decode cX4_spend 10 = .ok (.aload_n 0, 1) := by decide +kernel
theorem dX4_spend_11 : decode cX4_spend 11 = .ok (.dup, 1) := by decide +kernel
theorem dX4_spend_12 : decode cX4_spend 12 = .ok (.getfield 19, 3) := by decide +kernel
theorem dX4_spend_15 : decode cX4_spend 15 = .ok (.lload_n 1, 1) := by decide +kernel
theorem dX4_spend_16 : decode cX4_spend 16 = .ok (.ladd, 1) := by decide +kernel
theorem dX4_spend_17 : decode cX4_spend 17 = .ok (.putfield 19, 3) := by decide +kernel
theorem dX4_spend_20 : decode cX4_spend 20 = .ok (.return_, 1) := by decide +kernel
theorem dX4_countTick_0 : decode cX4_countTick 0 = .ok (.aload_n 0, 1) := by decide +kernel
theorem dX4_countTick_1 : decode cX4_countTick 1 = .ok (.getfield 9, 3) := by decide +kernel
theorem dX4_countTick_4 : decode cX4_countTick 4 = .ok (.iload_n 1, 1) := by decide +kernel
theorem dX4_countTick_5 : decode cX4_countTick 5 = .ok (.aload_n 0, 1) := by decide +kernel
theorem dX4_countTick_6 : decode cX4_countTick 6 = .ok (.getfield 9, 3) := by decide +kernel
theorem dX4_countTick_9 : decode cX4_countTick 9 = .ok (.iload_n 1, 1) := by decide +kernel
theorem dX4_countTick_10 : decode cX4_countTick 10 = .ok (.invokestatic 32, 3) := by decide +kernel
theorem dX4_countTick_13 : decode cX4_countTick 13 = .ok (.iconst 1, 1) := by decide +kernel
theorem dX4_countTick_14 : decode cX4_countTick 14 = .ok (.iadd, 1) := by decide +kernel
theorem dX4_countTick_15 : decode cX4_countTick 15 = .ok (.invokestatic 36, 3) := by decide +kernel
theorem dX4_countTick_18 : decode cX4_countTick 18 = .ok (.pop, 1) := by decide +kernel
theorem dX4_countTick_19 : decode cX4_countTick 19 = .ok (.return_, 1) := by decide +kernel
theorem dX4_takeUnpaid_0 : decode cX4_takeUnpaid 0 = .ok (.aload_n 0, 1) := by decide +kernel
theorem dX4_takeUnpaid_1 : decode cX4_takeUnpaid 1 = .ok (.getfield 19, 3) := by decide +kernel
theorem dX4_takeUnpaid_4 : decode cX4_takeUnpaid 4 = .ok (.lstore_n 1, 1) := by decide +kernel
theorem dX4_takeUnpaid_5 : decode cX4_takeUnpaid 5 = .ok (.aload_n 0, 1) := by decide +kernel
theorem dX4_takeUnpaid_6 : decode cX4_takeUnpaid 6 = .ok (.lconst 0, 1) := by decide +kernel
theorem dX4_takeUnpaid_7 : decode cX4_takeUnpaid 7 = .ok (.putfield 19, 3) := by decide +kernel
theorem dX4_takeUnpaid_10 : decode cX4_takeUnpaid 10 = .ok (.lload_n 1, 1) := by decide +kernel
theorem dX4_takeUnpaid_11 : decode cX4_takeUnpaid 11 = .ok (.lreturn, 1) := by decide +kernel
theorem dX5_init_0 : decode cX5_init 0 = .ok (.aload_n 0, 1) := by decide +kernel
theorem dX5_init_1 : decode cX5_init 1 = .ok (.invokespecial 3, 3) := by decide +kernel
theorem dX5_init_4 : decode cX5_init 4 = .ok (.aload_n 0, 1) := by decide +kernel
theorem dX5_init_5 : decode cX5_init 5 = .ok (.sipush 402, 3) := by decide +kernel
theorem dX5_init_8 : decode cX5_init 8 = .ok (.newarray .long, 2) := by decide +kernel
theorem dX5_init_10 : decode cX5_init 10 = .ok (.putfield 11, 3) := by decide +kernel
theorem dX5_init_13 : decode cX5_init 13 = .ok (.aload_n 0, 1) := by decide +kernel
theorem dX5_init_14 : decode cX5_init 14 = .ok (.sipush 402, 3) := by decide +kernel
theorem dX5_init_17 : decode cX5_init 17 = .ok (.newarray .long, 2) := by decide +kernel
theorem dX5_init_19 : decode cX5_init 19 = .ok (.putfield 15, 3) := by decide +kernel
theorem dX5_init_22 : decode cX5_init 22 = .ok (.return_, 1) := by decide +kernel
theorem dX5_countPlanned_0 : decode cX5_countPlanned 0 = .ok (.iconst 0, 1) := by decide +kernel
theorem dX5_countPlanned_1 : decode cX5_countPlanned 1 = .ok (.istore_n 3, 1) := by decide +kernel
theorem dX5_countPlanned_2 : decode cX5_countPlanned 2 = .ok (.aload_n 1, 1) := by decide +kernel
theorem dX5_countPlanned_3 : decode cX5_countPlanned 3 = .ok (.iconst (-1), 1) := by decide +kernel
theorem dX5_countPlanned_4 : decode cX5_countPlanned 4 = .ok (.iload_n 2, 1) := by decide +kernel
theorem dX5_countPlanned_5 : decode cX5_countPlanned 5 = .ok (.invokevirtual 18, 3) := by decide +kernel
theorem dX5_countPlanned_8 : decode cX5_countPlanned 8 = .ok (.istore 4, 2) := by decide +kernel
theorem dX5_countPlanned_10 : decode cX5_countPlanned 10 = .ok (.iload 4, 2) := by decide +kernel
theorem dX5_countPlanned_12 : decode cX5_countPlanned 12 = .ok (.iconst (-1), 1) := by decide +kernel
theorem dX5_countPlanned_13 : decode cX5_countPlanned 13 = .ok (.if_icmp .eq 26, 3) := by decide +kernel
theorem dX5_countPlanned_16 : decode cX5_countPlanned 16 = .ok (.iload_n 3, 1) := by decide +kernel
theorem dX5_countPlanned_17 : decode cX5_countPlanned 17 = .ok (.aload_n 1, 1) := by decide +kernel
theorem dX5_countPlanned_18 : decode cX5_countPlanned 18 = .ok (.getfield 24, 3) := by decide +kernel
theorem dX5_countPlanned_21 : decode cX5_countPlanned 21 = .ok (.if_icmp .ge 18, 3) := by decide +kernel
theorem dX5_countPlanned_24 : decode cX5_countPlanned 24 = .ok (.iinc 3 1, 3) := by decide +kernel
theorem dX5_countPlanned_27 : decode cX5_countPlanned 27 = .ok (.aload_n 1, 1) := by decide +kernel
theorem dX5_countPlanned_28 : decode cX5_countPlanned 28 = .ok (.iload 4, 2) := by decide +kernel
theorem dX5_countPlanned_30 : decode cX5_countPlanned 30 = .ok (.iload_n 2, 1) := by decide +kernel
theorem dX5_countPlanned_31 : decode cX5_countPlanned 31 = .ok (.invokevirtual 18, 3) := by decide +kernel
theorem dX5_countPlanned_34 : decode cX5_countPlanned 34 = .ok (.istore 4, 2) := by decide +kernel
theorem dX5_countPlanned_36 : decode cX5_countPlanned 36 = .ok (.goto (-26), 3) := by decide +kernel
theorem dX5_countPlanned_39 : decode cX5_countPlanned 39 = .ok (.iload_n 3, 1) := by decide +kernel
theorem dX5_countPlanned_40 : decode cX5_countPlanned 40 = .ok (.ireturn, 1) := by decide +kernel
theorem dX5_sumPlanned_0 : decode cX5_sumPlanned 0 = .ok (.lconst 0, 1) := by decide +kernel
theorem dX5_sumPlanned_1 : decode cX5_sumPlanned 1 = .ok (.lstore 6, 2) := by decide +kernel
theorem dX5_sumPlanned_3 : decode cX5_sumPlanned 3 = .ok (.iload_n 2, 1) := by decide +kernel
theorem dX5_sumPlanned_4 : decode cX5_sumPlanned 4 = .ok (.istore 8, 2) := by decide +kernel
theorem dX5_sumPlanned_6 : decode cX5_sumPlanned 6 = .ok (.aload_n 0, 1) := by decide +kernel
theorem dX5_sumPlanned_7 : decode cX5_sumPlanned 7 = .ok (.aload_n 1, 1) := by decide +kernel
theorem dX5_sumPlanned_8 : decode cX5_sumPlanned 8 = .ok (.iload_n 3, 1) := by decide +kernel
theorem dX5_sumPlanned_9 : decode cX5_sumPlanned 9 = .ok (.invokevirtual 28, 3) := by decide +kernel
theorem dX5_sumPlanned_12 : decode cX5_sumPlanned 12 = .ok (.istore 9, 2) := by decide +kernel
theorem dX5_sumPlanned_14 : decode cX5_sumPlanned 14 = .ok (.aload_n 1, 1) := by decide +kernel
theorem dX5_sumPlanned_15 : decode cX5_sumPlanned 15 = .ok (.iconst (-1), 1) := by decide +kernel
theorem dX5_sumPlanned_16 : decode cX5_sumPlanned 16 = .ok (.iload_n 3, 1) := by decide +kernel
theorem dX5_sumPlanned_17 : decode cX5_sumPlanned 17 = .ok (.invokevirtual 18, 3) := by decide +kernel
theorem dX5_sumPlanned_20 : decode cX5_sumPlanned 20 = .ok (.istore 10, 2) := by decide +kernel
theorem dX5_sumPlanned_22 : decode cX5_sumPlanned 22 = .ok (.iconst 0, 1) := by decide +kernel
theorem dX5_sumPlanned_23 : decode cX5_sumPlanned 23 = .ok (.istore 11, 2) := by decide +kernel
theorem dX5_sumPlanned_25 : decode cX5_sumPlanned 25 = .ok (.iload 11, 2) := by decide +kernel
theorem dX5_sumPlanned_27 : decode cX5_sumPlanned 27 = .ok (.iload 9, 2) := by decide +kernel
theorem dX5_sumPlanned_29 : decode cX5_sumPlanned 29 = .ok (.if_icmp .ge 40, 3) := by decide +kernel
theorem dX5_sumPlanned_32 : decode cX5_sumPlanned 32 = .ok (.lload 6, 2) := by decide +kernel
theorem dX5_sumPlanned_34 : decode cX5_sumPlanned 34 = .ok (.aload 4, 2) := by decide +kernel
theorem dX5_sumPlanned_36 : decode cX5_sumPlanned 36 = .ok (.iload 5, 2) := by decide +kernel
theorem dX5_sumPlanned_38 : decode cX5_sumPlanned 38 = .ok (.iload 10, 2) := by decide +kernel
theorem dX5_sumPlanned_40 : decode cX5_sumPlanned 40 = .ok (.iload 8, 2) := by decide +kernel
theorem dX5_sumPlanned_42 : decode cX5_sumPlanned 42 = .ok (.isub, 1) := by decide +kernel
theorem dX5_sumPlanned_43 : decode cX5_sumPlanned 43 = .ok (.invokevirtual 32, 3) := by decide +kernel
theorem dX5_sumPlanned_46 : decode cX5_sumPlanned 46 = .ok (.i2l, 1) := by decide +kernel
theorem dX5_sumPlanned_47 : decode cX5_sumPlanned 47 = .ok (.ladd, 1) := by decide +kernel
theorem dX5_sumPlanned_48 : decode cX5_sumPlanned 48 = .ok (.lstore 6, 2) := by decide +kernel
theorem dX5_sumPlanned_50 : decode cX5_sumPlanned 50 = .ok (.iload 10, 2) := by decide +kernel
theorem dX5_sumPlanned_52 : decode cX5_sumPlanned 52 = .ok (.istore 8, 2) := by decide +kernel
theorem dX5_sumPlanned_54 : decode cX5_sumPlanned 54 = .ok (.aload_n 1, 1) := by decide +kernel
theorem dX5_sumPlanned_55 : decode cX5_sumPlanned 55 = .ok (.iload 10, 2) := by decide +kernel
theorem dX5_sumPlanned_57 : decode cX5_sumPlanned 57 = .ok (.iload_n 3, 1) := by decide +kernel
theorem dX5_sumPlanned_58 : decode cX5_sumPlanned 58 = .ok (.invokevirtual 18, 3) := by decide +kernel
theorem dX5_sumPlanned_61 : decode cX5_sumPlanned 61 = .ok (.istore 10, 2) := by decide +kernel
theorem dX5_sumPlanned_63 : decode cX5_sumPlanned 63 = .ok (.iinc 11 1, 3) := by decide +kernel
theorem dX5_sumPlanned_66 : decode cX5_sumPlanned 66 = .ok (.goto (-41), 3) := by decide +kernel
theorem dX5_sumPlanned_69 : decode cX5_sumPlanned 69 = .ok (.lload 6, 2) := by decide +kernel
theorem dX5_sumPlanned_71 : decode cX5_sumPlanned 71 = .ok (.aload 4, 2) := by decide +kernel
theorem dX5_sumPlanned_73 : decode cX5_sumPlanned 73 = .ok (.iload 5, 2) := by decide +kernel
theorem dX5_sumPlanned_75 : decode cX5_sumPlanned 75 = .ok (.iload_n 3, 1) := by decide +kernel
theorem dX5_sumPlanned_76 : decode cX5_sumPlanned 76 = .ok (.iload 8, 2) := by decide +kernel
theorem dX5_sumPlanned_78 : decode cX5_sumPlanned 78 = .ok (.isub, 1) := by decide +kernel
theorem dX5_sumPlanned_79 : decode cX5_sumPlanned 79 = .ok (.invokevirtual 32, 3) := by decide +kernel
theorem dX5_sumPlanned_82 : decode cX5_sumPlanned 82 = .ok (.i2l, 1) := by decide +kernel
theorem dX5_sumPlanned_83 : decode cX5_sumPlanned 83 = .ok (.ladd, 1) := by decide +kernel
theorem dX5_sumPlanned_84 : decode cX5_sumPlanned 84 = .ok (.lreturn, 1) := by decide +kernel
theorem dX6_init_0 : decode cX6_init 0 = .ok (.aload_n 0, 1) := by decide +kernel
theorem dX6_init_1 : decode cX6_init 1 = .ok (.invokespecial 3, 3) := by decide +kernel
theorem dX6_init_4 : decode cX6_init 4 = .ok (.aload_n 0, 1) := by decide +kernel
theorem dX6_init_5 : decode cX6_init 5 = .ok (.iconst 4, 1) := by decide +kernel
theorem dX6_init_6 : decode cX6_init 6 = .ok (.newarray .int, 2) := by decide +kernel
theorem dX6_init_8 : decode cX6_init 8 = .ok (.dup, 1) := by decide +kernel
theorem dX6_init_9 : decode cX6_init 9 = .ok (.iconst 0, 1) := by decide +kernel
theorem dX6_init_10 : decode cX6_init 10 = .ok (.bipush 100, 2) := by decide +kernel
theorem dX6_init_12 : decode cX6_init 12 = .ok (.iastore, 1) := by decide +kernel
theorem dX6_init_13 : decode cX6_init 13 = .ok (.dup, 1) := by decide +kernel
theorem dX6_init_14 : decode cX6_init 14 = .ok (.iconst 1, 1) := by decide +kernel
theorem dX6_init_15 : decode cX6_init 15 = .ok (.bipush 40, 2) := by decide +kernel
theorem dX6_init_17 : decode cX6_init 17 = .ok (.iastore, 1) := by decide +kernel
theorem dX6_init_18 : decode cX6_init 18 = .ok (.dup, 1) := by decide +kernel
theorem dX6_init_19 : decode cX6_init 19 = .ok (.iconst 2, 1) := by decide +kernel
theorem dX6_init_20 : decode cX6_init 20 = .ok (.bipush 10, 2) := by decide +kernel
theorem dX6_init_22 : decode cX6_init 22 = .ok (.iastore, 1) := by decide +kernel
theorem dX6_init_23 : decode cX6_init 23 = .ok (.dup, 1) := by decide +kernel
theorem dX6_init_24 : decode cX6_init 24 = .ok (.iconst 3, 1) := by decide +kernel
theorem dX6_init_25 : decode cX6_init 25 = .ok (.iconst 1, 1) := by decide +kernel
theorem dX6_init_26 : decode cX6_init 26 = .ok (.iastore, 1) := by decide +kernel
theorem dX6_init_27 : decode cX6_init 27 = .ok (.putfield 9, 3) := by decide +kernel
theorem dX6_init_30 : decode cX6_init 30 = .ok (.aload_n 0, 1) := by decide +kernel
theorem dX6_init_31 : decode cX6_init 31 = .ok (.iconst 4, 1) := by decide +kernel
theorem dX6_init_32 : decode cX6_init 32 = .ok (.newarray .int, 2) := by decide +kernel
theorem dX6_init_34 : decode cX6_init 34 = .ok (.dup, 1) := by decide +kernel
theorem dX6_init_35 : decode cX6_init 35 = .ok (.iconst 0, 1) := by decide +kernel
theorem dX6_init_36 : decode cX6_init 36 = .ok (.iconst 0, 1) := by decide +kernel
theorem dX6_init_37 : decode cX6_init 37 = .ok (.iastore, 1) := by decide +kernel
theorem dX6_init_38 : decode cX6_init 38 = .ok (.dup, 1) := by decide +kernel
theorem dX6_init_39 : decode cX6_init 39 = .ok (.iconst 1, 1) := by decide +kernel
theorem dX6_init_40 : decode cX6_init 40 = .ok (.bipush 20, 2) := by decide +kernel
theorem dX6_init_42 : decode cX6_init 42 = .ok (.iastore, 1) := by decide +kernel
theorem dX6_init_43 : decode cX6_init 43 = .ok (.dup, 1) := by decide +kernel
theorem dX6_init_44 : decode cX6_init 44 = .ok (.iconst 2, 1) := by decide +kernel
theorem dX6_init_45 : decode cX6_init 45 = .ok (.sipush 150, 3) := by decide +kernel
theorem dX6_init_48 : decode cX6_init 48 = .ok (.iastore, 1) := by decide +kernel
theorem dX6_init_49 : decode cX6_init 49 = .ok (.dup, 1) := by decide +kernel
theorem dX6_init_50 : decode cX6_init 50 = .ok (.iconst 3, 1) := by decide +kernel
theorem dX6_init_51 : decode cX6_init 51 = .ok (.sipush 600, 3) := by decide +kernel
theorem dX6_init_54 : decode cX6_init 54 = .ok (.iastore, 1) := by decide +kernel
theorem dX6_init_55 : decode cX6_init 55 = .ok (.putfield 15, 3) := by decide +kernel
theorem dX6_init_58 : decode cX6_init 58 = .ok (.aload_n 0, 1) := by decide +kernel
theorem dX6_init_59 : decode cX6_init 59 = .ok (.iconst 4, 1) := by decide +kernel
theorem dX6_init_60 : decode cX6_init 60 = .ok (.newarray .int, 2) := by decide +kernel
theorem dX6_init_62 : decode cX6_init 62 = .ok (.dup, 1) := by decide +kernel
theorem dX6_init_63 : decode cX6_init 63 = .ok (.iconst 0, 1) := by decide +kernel
theorem dX6_init_64 : decode cX6_init 64 = .ok (.iconst 0, 1) := by decide +kernel
theorem dX6_init_65 : decode cX6_init 65 = .ok (.iastore, 1) := by decide +kernel
theorem dX6_init_66 : decode cX6_init 66 = .ok (.dup, 1) := by decide +kernel
theorem dX6_init_67 : decode cX6_init 67 = .ok (.iconst 1, 1) := by decide +kernel
theorem dX6_init_68 : decode cX6_init 68 = .ok (.iconst 1, 1) := by decide +kernel
theorem dX6_init_69 : decode cX6_init 69 = .ok (.iastore, 1) := by decide +kernel
theorem dX6_init_70 : decode cX6_init 70 = .ok (.dup, 1) := by decide +kernel
theorem dX6_init_71 : decode cX6_init 71 = .ok (.iconst 2, 1) := by decide +kernel
theorem dX6_init_72 : decode cX6_init 72 = .ok (.iconst 3, 1) := by decide +kernel
theorem dX6_init_73 : decode cX6_init 73 = .ok (.iastore, 1) := by decide +kernel
theorem dX6_init_74 : decode cX6_init 74 = .ok (.dup, 1) := by decide +kernel
theorem dX6_init_75 : decode cX6_init 75 = .ok (.iconst 3, 1) := by decide +kernel
theorem dX6_init_76 : decode cX6_init 76 = .ok (.bipush 8, 2) := by decide +kernel
theorem dX6_init_78 : decode cX6_init 78 = .ok (.iastore, 1) := by decide +kernel
theorem dX6_init_79 : decode cX6_init 79 = .ok (.putfield 18, 3) := by decide +kernel
theorem dX6_init_82 : decode cX6_init 82 = .ok (.return_, 1) := by decide +kernel
theorem dX6_change_0 : decode cX6_change 0 = .ok (.aload_n 0, 1) := by decide +kernel
theorem dX6_change_1 : decode cX6_change 1 = .ok (.getfield 9, 3) := by decide +kernel
theorem dX6_change_4 : decode cX6_change 4 = .ok (.iload_n 1, 1) := by decide +kernel
theorem dX6_change_5 : decode cX6_change 5 = .ok (.iload_n 2, 1) := by decide +kernel
theorem dX6_change_6 : decode cX6_change 6 = .ok (.invokestatic 21, 3) := by decide +kernel
theorem dX6_change_9 : decode cX6_change 9 = .ok (.pop, 1) := by decide +kernel
theorem dX6_change_10 : decode cX6_change 10 = .ok (.aload_n 0, 1) := by decide +kernel
theorem dX6_change_11 : decode cX6_change 11 = .ok (.getfield 15, 3) := by decide +kernel
theorem dX6_change_14 : decode cX6_change 14 = .ok (.iload_n 1, 1) := by decide +kernel
theorem dX6_change_15 : decode cX6_change 15 = .ok (.iload_n 3, 1) := by decide +kernel
theorem dX6_change_16 : decode cX6_change 16 = .ok (.invokestatic 21, 3) := by decide +kernel
theorem dX6_change_19 : decode cX6_change 19 = .ok (.pop, 1) := by decide +kernel
theorem dX6_change_20 : decode cX6_change 20 = .ok (.aload_n 0, 1) := by decide +kernel
theorem dX6_change_21 : decode cX6_change 21 = .ok (.getfield 18, 3) := by decide +kernel
theorem dX6_change_24 : decode cX6_change 24 = .ok (.iload_n 1, 1) := by decide +kernel
theorem dX6_change_25 : decode cX6_change 25 = .ok (.iload 4, 2) := by decide +kernel
theorem dX6_change_27 : decode cX6_change 27 = .ok (.invokestatic 21, 3) := by decide +kernel
theorem dX6_change_30 : decode cX6_change 30 = .ok (.pop, 1) := by decide +kernel
theorem dX6_change_31 : decode cX6_change 31 = .ok (.return_, 1) := by decide +kernel
theorem dX6_powerOf_0 : decode cX6_powerOf 0 = .ok (.aload_n 0, 1) := by decide +kernel
theorem dX6_powerOf_1 : decode cX6_powerOf 1 = .ok (.getfield 9, 3) := by decide +kernel
theorem dX6_powerOf_4 : decode cX6_powerOf 4 = .ok (.iload_n 1, 1) := by decide +kernel
theorem dX6_powerOf_5 : decode cX6_powerOf 5 = .ok (.invokestatic 25, 3) := by decide +kernel
theorem dX6_powerOf_8 : decode cX6_powerOf 8 = .ok (.ireturn, 1) := by decide +kernel
theorem dX6_costOf_0 : decode cX6_costOf 0 = .ok (.aload_n 0, 1) := by decide +kernel
theorem dX6_costOf_1 : decode cX6_costOf 1 = .ok (.getfield 15, 3) := by decide +kernel
theorem dX6_costOf_4 : decode cX6_costOf 4 = .ok (.iload_n 1, 1) := by decide +kernel
theorem dX6_costOf_5 : decode cX6_costOf 5 = .ok (.invokestatic 25, 3) := by decide +kernel
theorem dX6_costOf_8 : decode cX6_costOf 8 = .ok (.ireturn, 1) := by decide +kernel
theorem dX6_latencyOf_0 : decode cX6_latencyOf 0 = .ok (.aload_n 0, 1) := by decide +kernel
theorem dX6_latencyOf_1 : decode cX6_latencyOf 1 = .ok (.getfield 18, 3) := by decide +kernel
theorem dX6_latencyOf_4 : decode cX6_latencyOf 4 = .ok (.iload_n 1, 1) := by decide +kernel
theorem dX6_latencyOf_5 : decode cX6_latencyOf 5 = .ok (.invokestatic 25, 3) := by decide +kernel
theorem dX6_latencyOf_8 : decode cX6_latencyOf 8 = .ok (.ireturn, 1) := by decide +kernel
theorem dX6_wakingCost_0 : decode cX6_wakingCost 0 = .ok (.aload_n 0, 1) := by decide +kernel
theorem dX6_wakingCost_1 : decode cX6_wakingCost 1 = .ok (.iconst 0, 1) := by decide +kernel
theorem dX6_wakingCost_2 : decode cX6_wakingCost 2 = .ok (.invokevirtual 29, 3) := by decide +kernel
theorem dX6_wakingCost_5 : decode cX6_wakingCost 5 = .ok (.aload_n 0, 1) := by decide +kernel
theorem dX6_wakingCost_6 : decode cX6_wakingCost 6 = .ok (.iload_n 1, 1) := by decide +kernel
theorem dX6_wakingCost_7 : decode cX6_wakingCost 7 = .ok (.invokevirtual 33, 3) := by decide +kernel
theorem dX6_wakingCost_10 : decode cX6_wakingCost 10 = .ok (.imul, 1) := by decide +kernel
theorem dX6_wakingCost_11 : decode cX6_wakingCost 11 = .ok (.ireturn, 1) := by decide +kernel
theorem dX6_idleCost_0 : decode cX6_idleCost 0 = .ok (.aload_n 0, 1) := by decide +kernel
theorem dX6_idleCost_1 : decode cX6_idleCost 1 = .ok (.iload_n 1, 1) := by decide +kernel
theorem dX6_idleCost_2 : decode cX6_idleCost 2 = .ok (.invokevirtual 36, 3) := by decide +kernel
theorem dX6_idleCost_5 : decode cX6_idleCost 5 = .ok (.aload_n 0, 1) := by decide +kernel
theorem dX6_idleCost_6 : decode cX6_idleCost 6 = .ok (.iload_n 1, 1) := by decide +kernel
theorem dX6_idleCost_7 : decode cX6_idleCost 7 = .ok (.invokevirtual 29, 3) := by decide +kernel
theorem dX6_idleCost_10 : decode cX6_idleCost 10 = .ok (.iload_n 2, 1) := by decide +kernel
theorem dX6_idleCost_11 : decode cX6_idleCost 11 = .ok (.aload_n 0, 1) := by decide +kernel
theorem dX6_idleCost_12 : decode cX6_idleCost 12 = .ok (.iload_n 1, 1) := by decide +kernel
theorem dX6_idleCost_13 : decode cX6_idleCost 13 = .ok (.invokevirtual 33, 3) := by decide +kernel
theorem dX6_idleCost_16 : decode cX6_idleCost 16 = .ok (.isub, 1) := by decide +kernel
theorem dX6_idleCost_17 : decode cX6_idleCost 17 = .ok (.imul, 1) := by decide +kernel
theorem dX6_idleCost_18 : decode cX6_idleCost 18 = .ok (.iadd, 1) := by decide +kernel
theorem dX6_idleCost_19 : decode cX6_idleCost 19 = .ok (.aload_n 0, 1) := by decide +kernel
theorem dX6_idleCost_20 : decode cX6_idleCost 20 = .ok (.iload_n 1, 1) := by decide +kernel
theorem dX6_idleCost_21 : decode cX6_idleCost 21 = .ok (.invokevirtual 39, 3) := by decide +kernel
theorem dX6_idleCost_24 : decode cX6_idleCost 24 = .ok (.iadd, 1) := by decide +kernel
theorem dX6_idleCost_25 : decode cX6_idleCost 25 = .ok (.ireturn, 1) := by decide +kernel
theorem dX6_leastWorthwhile_0 : decode cX6_leastWorthwhile 0 = .ok (.aload_n 0, 1) := by decide +kernel
theorem dX6_leastWorthwhile_1 : decode cX6_leastWorthwhile 1 = .ok (.iload_n 1, 1) := by decide +kernel
theorem dX6_leastWorthwhile_2 : decode cX6_leastWorthwhile 2 = .ok (.invokevirtual 36, 3) := by decide +kernel
theorem dX6_leastWorthwhile_5 : decode cX6_leastWorthwhile 5 = .ok (.ifCond .ne 9, 3) := by decide +kernel
theorem dX6_leastWorthwhile_8 : decode cX6_leastWorthwhile 8 = .ok (.aload_n 0, 1) := by decide +kernel
theorem dX6_leastWorthwhile_9 : decode cX6_leastWorthwhile 9 = .ok (.iload_n 1, 1) := by decide +kernel
theorem dX6_leastWorthwhile_10 : decode cX6_leastWorthwhile 10 = .ok (.invokevirtual 33, 3) := by decide +kernel
theorem dX6_leastWorthwhile_13 : decode cX6_leastWorthwhile 13 = .ok (.ireturn, 1) := by decide +kernel
theorem dX6_leastWorthwhile_14 : decode cX6_leastWorthwhile 14 = .ok (.aload_n 0, 1) := by decide +kernel
theorem dX6_leastWorthwhile_15 : decode cX6_leastWorthwhile 15 = .ok (.iconst 0, 1) := by decide +kernel
theorem dX6_leastWorthwhile_16 : decode cX6_leastWorthwhile 16 = .ok (.invokevirtual 29, 3) := by decide +kernel
theorem dX6_leastWorthwhile_19 : decode cX6_leastWorthwhile 19 = .ok (.aload_n 0, 1) := by decide +kernel
theorem dX6_leastWorthwhile_20 : decode cX6_leastWorthwhile 20 = .ok (.iload_n 1, 1) := by decide +kernel
theorem dX6_leastWorthwhile_21 : decode cX6_leastWorthwhile 21 = .ok (.invokevirtual 29, 3) := by decide +kernel
theorem dX6_leastWorthwhile_24 : decode cX6_leastWorthwhile 24 = .ok (.isub, 1) := by decide +kernel
theorem dX6_leastWorthwhile_25 : decode cX6_leastWorthwhile 25 = .ok (.istore_n 2, 1) := by decide +kernel
theorem dX6_leastWorthwhile_26 : decode cX6_leastWorthwhile 26 = .ok (.iload_n 2, 1) := by decide +kernel
theorem dX6_leastWorthwhile_27 : decode cX6_leastWorthwhile 27 = .ok (.ifCond .gt 5, 3) := by decide +kernel
theorem dX6_leastWorthwhile_30 : decode cX6_leastWorthwhile 30 = .ok (.iconst (-1), 1) := by decide +kernel
theorem dX6_leastWorthwhile_31 : decode cX6_leastWorthwhile 31 = .ok (.ireturn, 1) := by decide +kernel
theorem dX6_leastWorthwhile_32 : decode cX6_leastWorthwhile 32 = .ok (.aload_n 0, 1) := by decide +kernel
theorem dX6_leastWorthwhile_33 : decode cX6_leastWorthwhile 33 = .ok (.iload_n 1, 1) := by decide +kernel
theorem dX6_leastWorthwhile_34 : decode cX6_leastWorthwhile 34 = .ok (.invokevirtual 33, 3) := by decide +kernel
theorem dX6_leastWorthwhile_37 : decode cX6_leastWorthwhile 37 = .ok (.aload_n 0, 1) := by decide +kernel
theorem dX6_leastWorthwhile_38 : decode cX6_leastWorthwhile 38 = .ok (.iload_n 1, 1) := by decide +kernel
theorem dX6_leastWorthwhile_39 : decode cX6_leastWorthwhile 39 = .ok (.invokevirtual 36, 3) := by decide +kernel
theorem dX6_leastWorthwhile_42 : decode cX6_leastWorthwhile 42 = .ok (.iload_n 2, 1) := by decide +kernel
theorem dX6_leastWorthwhile_43 : decode cX6_leastWorthwhile 43 = .ok (.iadd, 1) := by decide +kernel
theorem dX6_leastWorthwhile_44 : decode cX6_leastWorthwhile 44 = .ok (.iconst 1, 1) := by decide +kernel
theorem dX6_leastWorthwhile_45 : decode cX6_leastWorthwhile 45 = .ok (.isub, 1) := by decide +kernel
theorem dX6_leastWorthwhile_46 : decode cX6_leastWorthwhile 46 = .ok (.iload_n 2, 1) := by decide +kernel
theorem dX6_leastWorthwhile_47 : decode cX6_leastWorthwhile 47 = .ok (.idiv, 1) := by decide +kernel
theorem dX6_leastWorthwhile_48 : decode cX6_leastWorthwhile 48 = .ok (.iadd, 1) := by decide +kernel
theorem dX6_leastWorthwhile_49 : decode cX6_leastWorthwhile 49 = .ok (.istore_n 3, 1) := by decide +kernel
theorem dX6_leastWorthwhile_50 : decode cX6_leastWorthwhile 50 = .ok (.iload_n 3, 1) := by decide +kernel
theorem dX6_leastWorthwhile_51 : decode cX6_leastWorthwhile 51 = .ok (.sipush 5000, 3) := by decide +kernel
theorem dX6_leastWorthwhile_54 : decode cX6_leastWorthwhile 54 = .ok (.if_icmp .gt 7, 3) := by decide +kernel
theorem dX6_leastWorthwhile_57 : decode cX6_leastWorthwhile 57 = .ok (.iload_n 3, 1) := by decide +kernel
theorem dX6_leastWorthwhile_58 : decode cX6_leastWorthwhile 58 = .ok (.goto 4, 3) := by decide +kernel
theorem dX6_leastWorthwhile_61 : decode cX6_leastWorthwhile 61 = .ok (.iconst (-1), 1) := by decide +kernel
theorem dX6_leastWorthwhile_62 : decode cX6_leastWorthwhile 62 = .ok (.ireturn, 1) := by decide +kernel
theorem dX6_deepestThatWakes_0 : decode cX6_deepestThatWakes 0 = .ok (.iload_n 1, 1) := by decide +kernel
theorem dX6_deepestThatWakes_1 : decode cX6_deepestThatWakes 1 = .ok (.istore_n 3, 1) := by decide +kernel
theorem dX6_deepestThatWakes_2 : decode cX6_deepestThatWakes 2 = .ok (.iload_n 3, 1) := by decide +kernel
theorem dX6_deepestThatWakes_3 : decode cX6_deepestThatWakes 3 = .ok (.ifCond .le 20, 3) := by decide +kernel
theorem dX6_deepestThatWakes_6 : decode cX6_deepestThatWakes 6 = .ok (.aload_n 0, 1) := by decide +kernel
theorem dX6_deepestThatWakes_7 : decode cX6_deepestThatWakes 7 = .ok (.iload_n 3, 1) := by decide +kernel
theorem dX6_deepestThatWakes_8 : decode cX6_deepestThatWakes 8 = .ok (.invokevirtual 33, 3) := by decide +kernel
theorem dX6_deepestThatWakes_11 : decode cX6_deepestThatWakes 11 = .ok (.iload_n 2, 1) := by decide +kernel
theorem dX6_deepestThatWakes_12 : decode cX6_deepestThatWakes 12 = .ok (.if_icmp .gt 5, 3) := by decide +kernel
theorem dX6_deepestThatWakes_15 : decode cX6_deepestThatWakes 15 = .ok (.iload_n 3, 1) := by decide +kernel
theorem dX6_deepestThatWakes_16 : decode cX6_deepestThatWakes 16 = .ok (.ireturn, 1) := by decide +kernel
theorem dX6_deepestThatWakes_17 : decode cX6_deepestThatWakes 17 = .ok (.iinc 3 (-1), 3) := by decide +kernel
theorem dX6_deepestThatWakes_20 : decode cX6_deepestThatWakes 20 = .ok (.goto (-18), 3) := by decide +kernel
theorem dX6_deepestThatWakes_23 : decode cX6_deepestThatWakes 23 = .ok (.iconst 0, 1) := by decide +kernel
theorem dX6_deepestThatWakes_24 : decode cX6_deepestThatWakes 24 = .ok (.ireturn, 1) := by decide +kernel
theorem dX6_deepestWorthwhile_0 : decode cX6_deepestWorthwhile 0 = .ok (.iload_n 1, 1) := by decide +kernel
theorem dX6_deepestWorthwhile_1 : decode cX6_deepestWorthwhile 1 = .ok (.istore_n 3, 1) := by decide +kernel
theorem dX6_deepestWorthwhile_2 : decode cX6_deepestWorthwhile 2 = .ok (.iload_n 3, 1) := by decide +kernel
theorem dX6_deepestWorthwhile_3 : decode cX6_deepestWorthwhile 3 = .ok (.ifCond .le 30, 3) := by decide +kernel
theorem dX6_deepestWorthwhile_6 : decode cX6_deepestWorthwhile 6 = .ok (.aload_n 0, 1) := by decide +kernel
theorem dX6_deepestWorthwhile_7 : decode cX6_deepestWorthwhile 7 = .ok (.iload_n 3, 1) := by decide +kernel
theorem dX6_deepestWorthwhile_8 : decode cX6_deepestWorthwhile 8 = .ok (.invokevirtual 42, 3) := by decide +kernel
theorem dX6_deepestWorthwhile_11 : decode cX6_deepestWorthwhile 11 = .ok (.istore 4, 2) := by decide +kernel
theorem dX6_deepestWorthwhile_13 : decode cX6_deepestWorthwhile 13 = .ok (.iload 4, 2) := by decide +kernel
theorem dX6_deepestWorthwhile_15 : decode cX6_deepestWorthwhile 15 = .ok (.iconst (-1), 1) := by decide +kernel
theorem dX6_deepestWorthwhile_16 : decode cX6_deepestWorthwhile 16 = .ok (.if_icmp .eq 11, 3) := by decide +kernel
theorem dX6_deepestWorthwhile_19 : decode cX6_deepestWorthwhile 19 = .ok (.iload 4, 2) := by decide +kernel
theorem dX6_deepestWorthwhile_21 : decode cX6_deepestWorthwhile 21 = .ok (.iload_n 2, 1) := by decide +kernel
theorem dX6_deepestWorthwhile_22 : decode cX6_deepestWorthwhile 22 = .ok (.if_icmp .gt 5, 3) := by decide +kernel
theorem dX6_deepestWorthwhile_25 : decode cX6_deepestWorthwhile 25 = .ok (.iload_n 3, 1) := by decide +kernel
theorem dX6_deepestWorthwhile_26 : decode cX6_deepestWorthwhile 26 = .ok (.ireturn, 1) := by decide +kernel
theorem dX6_deepestWorthwhile_27 : decode cX6_deepestWorthwhile 27 = .ok (.iinc 3 (-1), 3) := by decide +kernel
theorem dX6_deepestWorthwhile_30 : decode cX6_deepestWorthwhile 30 = .ok (.goto (-28), 3) := by decide +kernel
theorem dX6_deepestWorthwhile_33 : decode cX6_deepestWorthwhile 33 = .ok (.iconst 0, 1) := by decide +kernel
theorem dX6_deepestWorthwhile_34 : decode cX6_deepestWorthwhile 34 = .ok (.ireturn, 1) := by decide +kernel
theorem dX6_plannedIdleCost_0 : decode cX6_plannedIdleCost 0 = .ok (.aload_n 0, 1) := by decide +kernel
theorem dX6_plannedIdleCost_1 : decode cX6_plannedIdleCost 1 = .ok (.aload_n 0, 1) := by decide +kernel
theorem dX6_plannedIdleCost_2 : decode cX6_plannedIdleCost 2 = .ok (.iload_n 1, 1) := by decide +kernel
theorem dX6_plannedIdleCost_3 : decode cX6_plannedIdleCost 3 = .ok (.iload_n 2, 1) := by decide +kernel
theorem dX6_plannedIdleCost_4 : decode cX6_plannedIdleCost 4 = .ok (.invokevirtual 45, 3) := by decide +kernel
theorem dX6_plannedIdleCost_7 : decode cX6_plannedIdleCost 7 = .ok (.iload_n 2, 1) := by decide +kernel
theorem dX6_plannedIdleCost_8 : decode cX6_plannedIdleCost 8 = .ok (.invokevirtual 49, 3) := by decide +kernel
theorem dX6_plannedIdleCost_11 : decode cX6_plannedIdleCost 11 = .ok (.ireturn, 1) := by decide +kernel
theorem dJ9_floorDiv_7cf53_0 : decode cJ9_floorDiv_7cf53 0 = .ok (.iload_n 0, 1) := by decide +kernel
theorem dJ9_floorDiv_7cf53_1 : decode cJ9_floorDiv_7cf53 1 = .ok (.iload_n 1, 1) := by decide +kernel
theorem dJ9_floorDiv_7cf53_2 : decode cJ9_floorDiv_7cf53 2 = .ok (.idiv, 1) := by decide +kernel
theorem dJ9_floorDiv_7cf53_3 : decode cJ9_floorDiv_7cf53 3 = .ok (.istore_n 2, 1) := by decide +kernel
theorem dJ9_floorDiv_7cf53_4 : decode cJ9_floorDiv_7cf53 4 = .ok (.iload_n 0, 1) := by decide +kernel
theorem dJ9_floorDiv_7cf53_5 : decode cJ9_floorDiv_7cf53 5 = .ok (.iload_n 1, 1) := by decide +kernel
theorem dJ9_floorDiv_7cf53_6 : decode cJ9_floorDiv_7cf53 6 = .ok (.ixor, 1) := by decide +kernel
theorem dJ9_floorDiv_7cf53_7 : decode cJ9_floorDiv_7cf53 7 = .ok (.ifCond .ge 14, 3) := by decide +kernel
theorem dJ9_floorDiv_7cf53_10 : decode cJ9_floorDiv_7cf53 10 = .ok (.iload_n 2, 1) := by decide +kernel
theorem dJ9_floorDiv_7cf53_11 : decode cJ9_floorDiv_7cf53 11 = .ok (.iload_n 1, 1) := by decide +kernel
theorem dJ9_floorDiv_7cf53_12 : decode cJ9_floorDiv_7cf53 12 = .ok (.imul, 1) := by decide +kernel
theorem dJ9_floorDiv_7cf53_13 : decode cJ9_floorDiv_7cf53 13 = .ok (.iload_n 0, 1) := by decide +kernel
theorem dJ9_floorDiv_7cf53_14 : decode cJ9_floorDiv_7cf53 14 = .ok (.if_icmp .eq 7, 3) := by decide +kernel
theorem dJ9_floorDiv_7cf53_17 : decode cJ9_floorDiv_7cf53 17 = .ok (.iload_n 2, 1) := by decide +kernel
theorem dJ9_floorDiv_7cf53_18 : decode cJ9_floorDiv_7cf53 18 = .ok (.iconst 1, 1) := by decide +kernel
theorem dJ9_floorDiv_7cf53_19 : decode cJ9_floorDiv_7cf53 19 = .ok (.isub, 1) := by decide +kernel
theorem dJ9_floorDiv_7cf53_20 : decode cJ9_floorDiv_7cf53 20 = .ok (.ireturn, 1) := by decide +kernel
theorem dJ9_floorDiv_7cf53_21 : decode cJ9_floorDiv_7cf53 21 = .ok (.iload_n 2, 1) := by decide +kernel
theorem dJ9_floorDiv_7cf53_22 : decode cJ9_floorDiv_7cf53 22 = .ok (.ireturn, 1) := by decide +kernel
theorem dJ9_floorMod_7cf53_0 : decode cJ9_floorMod_7cf53 0 = .ok (.iload_n 0, 1) := by decide +kernel
theorem dJ9_floorMod_7cf53_1 : decode cJ9_floorMod_7cf53 1 = .ok (.iload_n 1, 1) := by decide +kernel
theorem dJ9_floorMod_7cf53_2 : decode cJ9_floorMod_7cf53 2 = .ok (.irem, 1) := by decide +kernel
theorem dJ9_floorMod_7cf53_3 : decode cJ9_floorMod_7cf53 3 = .ok (.istore_n 2, 1) := by decide +kernel
theorem dJ9_floorMod_7cf53_4 : decode cJ9_floorMod_7cf53 4 = .ok (.iload_n 0, 1) := by decide +kernel
theorem dJ9_floorMod_7cf53_5 : decode cJ9_floorMod_7cf53 5 = .ok (.iload_n 1, 1) := by decide +kernel
theorem dJ9_floorMod_7cf53_6 : decode cJ9_floorMod_7cf53 6 = .ok (.ixor, 1) := by decide +kernel
theorem dJ9_floorMod_7cf53_7 : decode cJ9_floorMod_7cf53 7 = .ok (.ifCond .ge 11, 3) := by decide +kernel
theorem dJ9_floorMod_7cf53_10 : decode cJ9_floorMod_7cf53 10 = .ok (.iload_n 2, 1) := by decide +kernel
theorem dJ9_floorMod_7cf53_11 : decode cJ9_floorMod_7cf53 11 = .ok (.ifCond .eq 7, 3) := by decide +kernel
theorem dJ9_floorMod_7cf53_14 : decode cJ9_floorMod_7cf53 14 = .ok (.iload_n 2, 1) := by decide +kernel
theorem dJ9_floorMod_7cf53_15 : decode cJ9_floorMod_7cf53 15 = .ok (.iload_n 1, 1) := by decide +kernel
theorem dJ9_floorMod_7cf53_16 : decode cJ9_floorMod_7cf53 16 = .ok (.iadd, 1) := by decide +kernel
theorem dJ9_floorMod_7cf53_17 : decode cJ9_floorMod_7cf53 17 = .ok (.ireturn, 1) := by decide +kernel
theorem dJ9_floorMod_7cf53_18 : decode cJ9_floorMod_7cf53 18 = .ok (.iload_n 2, 1) := by decide +kernel
theorem dJ9_floorMod_7cf53_19 : decode cJ9_floorMod_7cf53 19 = .ok (.ireturn, 1) := by decide +kernel
theorem dJ9_max_f86c9_0 : decode cJ9_max_f86c9 0 = .ok (.lload_n 0, 1) := by decide +kernel
theorem dJ9_max_f86c9_1 : decode cJ9_max_f86c9 1 = .ok (.lload_n 2, 1) := by decide +kernel
theorem dJ9_max_f86c9_2 : decode cJ9_max_f86c9 2 = .ok (.lcmp, 1) := by decide +kernel
theorem dJ9_max_f86c9_3 : decode cJ9_max_f86c9 3 = .ok (.ifCond .lt 7, 3) := by decide +kernel
theorem dJ9_max_f86c9_6 : decode cJ9_max_f86c9 6 = .ok (.lload_n 0, 1) := by decide +kernel
theorem dJ9_max_f86c9_7 : decode cJ9_max_f86c9 7 = .ok (.goto 4, 3) := by decide +kernel
theorem dJ9_max_f86c9_10 : decode cJ9_max_f86c9 10 = .ok (.lload_n 2, 1) := by decide +kernel
theorem dJ9_max_f86c9_11 : decode cJ9_max_f86c9 11 = .ok (.lreturn, 1) := by decide +kernel
theorem dJ9_min_7cf53_0 : decode cJ9_min_7cf53 0 = .ok (.iload_n 0, 1) := by decide +kernel
theorem dJ9_min_7cf53_1 : decode cJ9_min_7cf53 1 = .ok (.iload_n 1, 1) := by decide +kernel
theorem dJ9_min_7cf53_2 : decode cJ9_min_7cf53 2 = .ok (.if_icmp .gt 7, 3) := by decide +kernel
theorem dJ9_min_7cf53_5 : decode cJ9_min_7cf53 5 = .ok (.iload_n 0, 1) := by decide +kernel
theorem dJ9_min_7cf53_6 : decode cJ9_min_7cf53 6 = .ok (.goto 4, 3) := by decide +kernel
theorem dJ9_min_7cf53_9 : decode cJ9_min_7cf53 9 = .ok (.iload_n 1, 1) := by decide +kernel
theorem dJ9_min_7cf53_10 : decode cJ9_min_7cf53 10 = .ok (.ireturn, 1) := by decide +kernel
theorem dJ9_min_f86c9_0 : decode cJ9_min_f86c9 0 = .ok (.lload_n 0, 1) := by decide +kernel
theorem dJ9_min_f86c9_1 : decode cJ9_min_f86c9 1 = .ok (.lload_n 2, 1) := by decide +kernel
theorem dJ9_min_f86c9_2 : decode cJ9_min_f86c9 2 = .ok (.lcmp, 1) := by decide +kernel
theorem dJ9_min_f86c9_3 : decode cJ9_min_f86c9 3 = .ok (.ifCond .gt 7, 3) := by decide +kernel
theorem dJ9_min_f86c9_6 : decode cJ9_min_f86c9 6 = .ok (.lload_n 0, 1) := by decide +kernel
theorem dJ9_min_f86c9_7 : decode cJ9_min_f86c9 7 = .ok (.goto 4, 3) := by decide +kernel
theorem dJ9_min_f86c9_10 : decode cJ9_min_f86c9 10 = .ok (.lload_n 2, 1) := by decide +kernel
theorem dJ9_min_f86c9_11 : decode cJ9_min_f86c9 11 = .ok (.lreturn, 1) := by decide +kernel
