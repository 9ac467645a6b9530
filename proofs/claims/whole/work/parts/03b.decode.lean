/-! decode rows (claim/NAMES.whole.lean.txt) -/
theorem dX3_giveFirst_13 : decode cX3_giveFirst 13 = .ok (.aload_n 0, 1) := by decide +kernel
theorem dX3_giveFirst_14 : decode cX3_giveFirst 14 = .ok (.getfield 18, 3) := by decide +kernel
theorem dX3_giveFirst_17 : decode cX3_giveFirst 17 = .ok (.iload 4, 2) := by decide +kernel
theorem dX3_giveFirst_19 : decode cX3_giveFirst 19 = .ok (.iconst 0, 1) := by decide +kernel
theorem dX3_giveFirst_20 : decode cX3_giveFirst 20 = .ok (.iastore, 1) := by decide +kernel
theorem dX3_giveFirst_21 : decode cX3_giveFirst 21 = .ok (.iinc 4 1, 3) := by decide +kernel
theorem dX3_giveFirst_24 : decode cX3_giveFirst 24 = .ok (.goto (-21), 3) := by decide +kernel
theorem dX3_giveFirst_27 : decode cX3_giveFirst 27 = .ok (.iconst 0, 1) := by decide +kernel
theorem dX3_giveFirst_28 : decode cX3_giveFirst 28 = .ok (.istore 4, 2) := by decide +kernel
theorem dX3_giveFirst_30 : decode cX3_giveFirst 30 = .ok (.iload 4, 2) := by decide +kernel
theorem dX3_giveFirst_32 : decode cX3_giveFirst 32 = .ok (.aload_n 2, 1) := by decide +kernel
theorem dX3_giveFirst_33 : decode cX3_giveFirst 33 = .ok (.invokevirtual 61, 3) := by decide +kernel
theorem dX3_giveFirst_36 : decode cX3_giveFirst 36 = .ok (.if_icmp .ge 35, 3) := by decide +kernel
theorem dX3_giveFirst_39 : decode cX3_giveFirst 39 = .ok (.aload_n 0, 1) := by decide +kernel
theorem dX3_giveFirst_40 : decode cX3_giveFirst 40 = .ok (.iload_n 3, 1) := by decide +kernel
theorem dX3_giveFirst_41 : decode cX3_giveFirst 41 = .ok (.aload_n 2, 1) := by decide +kernel
theorem dX3_giveFirst_42 : decode cX3_giveFirst 42 = .ok (.iload 4, 2) := by decide +kernel
theorem dX3_giveFirst_44 : decode cX3_giveFirst 44 = .ok (.invokevirtual 93, 3) := by decide +kernel
theorem dX3_giveFirst_47 : decode cX3_giveFirst 47 = .ok (.invokevirtual 138, 3) := by decide +kernel
theorem dX3_giveFirst_50 : decode cX3_giveFirst 50 = .ok (.ifCond .eq 15, 3) := by decide +kernel
theorem dX3_giveFirst_53 : decode cX3_giveFirst 53 = .ok (.aload_n 1, 1) := by decide +kernel
theorem dX3_giveFirst_54 : decode cX3_giveFirst 54 = .ok (.aload_n 2, 1) := by decide +kernel
theorem dX3_giveFirst_55 : decode cX3_giveFirst 55 = .ok (.iload 4, 2) := by decide +kernel
theorem dX3_giveFirst_57 : decode cX3_giveFirst 57 = .ok (.invokestatic 132, 3) := by decide +kernel
theorem dX3_giveFirst_60 : decode cX3_giveFirst 60 = .ok (.ifCond .ne 5, 3) := by decide +kernel
theorem dX3_giveFirst_63 : decode cX3_giveFirst 63 = .ok (.iconst 0, 1) := by decide +kernel
theorem dX3_giveFirst_64 : decode cX3_giveFirst 64 = .ok (.ireturn, 1) := by decide +kernel
theorem dX3_giveFirst_65 : decode cX3_giveFirst 65 = .ok (.iinc 4 1, 3) := by decide +kernel
theorem dX3_giveFirst_68 : decode cX3_giveFirst 68 = .ok (.goto (-38), 3) := by decide +kernel
theorem dX3_giveFirst_71 : decode cX3_giveFirst 71 = .ok (.iconst 1, 1) := by decide +kernel
theorem dX3_giveFirst_72 : decode cX3_giveFirst 72 = .ok (.ireturn, 1) := by decide +kernel
theorem dX3_sawFewerThan_0 : decode cX3_sawFewerThan 0 = .ok (.iload_n 2, 1) := by decide +kernel
theorem dX3_sawFewerThan_1 : decode cX3_sawFewerThan 1 = .ok (.ifCond .lt 22, 3) := by decide +kernel
theorem dX3_sawFewerThan_4 : decode cX3_sawFewerThan 4 = .ok (.iload_n 2, 1) := by decide +kernel
theorem dX3_sawFewerThan_5 : decode cX3_sawFewerThan 5 = .ok (.aload_n 0, 1) := by decide +kernel
theorem dX3_sawFewerThan_6 : decode cX3_sawFewerThan 6 = .ok (.getfield 18, 3) := by decide +kernel
theorem dX3_sawFewerThan_9 : decode cX3_sawFewerThan 9 = .ok (.arraylength, 1) := by decide +kernel
theorem dX3_sawFewerThan_10 : decode cX3_sawFewerThan 10 = .ok (.if_icmp .ge 13, 3) := by decide +kernel
theorem dX3_sawFewerThan_13 : decode cX3_sawFewerThan 13 = .ok (.aload_n 0, 1) := by decide +kernel
theorem dX3_sawFewerThan_14 : decode cX3_sawFewerThan 14 = .ok (.getfield 18, 3) := by decide +kernel
theorem dX3_sawFewerThan_17 : decode cX3_sawFewerThan 17 = .ok (.iload_n 2, 1) := by decide +kernel
theorem dX3_sawFewerThan_18 : decode cX3_sawFewerThan 18 = .ok (.iaload, 1) := by decide +kernel
theorem dX3_sawFewerThan_19 : decode cX3_sawFewerThan 19 = .ok (.iload_n 1, 1) := by decide +kernel
theorem dX3_sawFewerThan_20 : decode cX3_sawFewerThan 20 = .ok (.if_icmp .lt 5, 3) := by decide +kernel
theorem dX3_sawFewerThan_23 : decode cX3_sawFewerThan 23 = .ok (.iconst 0, 1) := by decide +kernel
theorem dX3_sawFewerThan_24 : decode cX3_sawFewerThan 24 = .ok (.ireturn, 1) := by decide +kernel
theorem dX3_sawFewerThan_25 : decode cX3_sawFewerThan 25 = .ok (.aload_n 0, 1) := by decide +kernel
theorem dX3_sawFewerThan_26 : decode cX3_sawFewerThan 26 = .ok (.getfield 18, 3) := by decide +kernel
theorem dX3_sawFewerThan_29 : decode cX3_sawFewerThan 29 = .ok (.iload_n 2, 1) := by decide +kernel
theorem dX3_sawFewerThan_30 : decode cX3_sawFewerThan 30 = .ok (.dup2, 1) := by decide +kernel
theorem dX3_sawFewerThan_31 : decode cX3_sawFewerThan 31 = .ok (.iaload, 1) := by decide +kernel
theorem dX3_sawFewerThan_32 : decode cX3_sawFewerThan 32 = .ok (.iconst 1, 1) := by decide +kernel
theorem dX3_sawFewerThan_33 : decode cX3_sawFewerThan 33 = .ok (.iadd, 1) := by decide +kernel
theorem dX3_sawFewerThan_34 : decode cX3_sawFewerThan 34 = .ok (.iastore, 1) := by decide +kernel
theorem dX3_sawFewerThan_35 : decode cX3_sawFewerThan 35 = .ok (.iconst 1, 1) := by decide +kernel
theorem dX3_sawFewerThan_36 : decode cX3_sawFewerThan 36 = .ok (.ireturn, 1) := by decide +kernel
theorem dX4_init_0 : decode cX4_init 0 = .ok (.aload_n 0, 1) := by decide +kernel
theorem dX4_init_1 : decode cX4_init 1 = .ok (.invokespecial 3, 3) := by decide +kernel
theorem dX4_init_4 : decode cX4_init 4 = .ok (.aload_n 0, 1) := by decide +kernel
theorem dX4_init_5 : decode cX4_init 5 = .ok (.iconst 0, 1) := by decide +kernel
theorem dX4_init_6 : decode cX4_init 6 = .ok (.putfield 9, 3) := by decide +kernel
theorem dX4_init_9 : decode cX4_init 9 = .ok (.iload_n 1, 1) := by decide +kernel
theorem dX4_init_10 : decode cX4_init 10 = .ok (.iconst 0, 1) := by decide +kernel
theorem dX4_init_11 : decode cX4_init 11 = .ok (.invokestatic 15, 3) := by decide +kernel
theorem dX4_init_14 : decode cX4_init 14 = .ok (.istore_n 2, 1) := by decide +kernel
theorem dX4_init_15 : decode cX4_init 15 = .ok (.aload_n 0, 1) := by decide +kernel
theorem dX4_init_16 : decode cX4_init 16 = .ok (.iload_n 2, 1) := by decide +kernel
theorem dX4_init_17 : decode cX4_init 17 = .ok (.newarray .int, 2) := by decide +kernel
theorem dX4_init_19 : decode cX4_init 19 = .ok (.putfield 21, 3) := by decide +kernel
theorem dX4_init_22 : decode cX4_init 22 = .ok (.aload_n 0, 1) := by decide +kernel
theorem dX4_init_23 : decode cX4_init 23 = .ok (.iload_n 2, 1) := by decide +kernel
theorem dX4_init_24 : decode cX4_init 24 = .ok (.newarray .int, 2) := by decide +kernel
theorem dX4_init_26 : decode cX4_init 26 = .ok (.putfield 25, 3) := by decide +kernel
theorem dX4_init_29 : decode cX4_init 29 = .ok (.aload_n 0, 1) := by decide +kernel
theorem dX4_init_30 : decode cX4_init 30 = .ok (.iload_n 2, 1) := by decide +kernel
theorem dX4_init_31 : decode cX4_init 31 = .ok (.newarray .long, 2) := by decide +kernel
theorem dX4_init_33 : decode cX4_init 33 = .ok (.putfield 28, 3) := by decide +kernel
theorem dX4_init_36 : decode cX4_init 36 = .ok (.return_, 1) := by decide +kernel
theorem dX4_size_0 : decode cX4_size 0 = .ok (.aload_n 0, 1) := by decide +kernel
theorem dX4_size_1 : decode cX4_size 1 = .ok (.getfield 9, 3) := by decide +kernel
theorem dX4_size_4 : decode cX4_size 4 = .ok (.ireturn, 1) := by decide +kernel
theorem dX4_empty_0 : decode cX4_empty 0 = .ok (.aload_n 0, 1) := by decide +kernel
theorem dX4_empty_1 : decode cX4_empty 1 = .ok (.iconst 0, 1) := by decide +kernel
theorem dX4_empty_2 : decode cX4_empty 2 = .ok (.putfield 9, 3) := by decide +kernel
theorem dX4_empty_5 : decode cX4_empty 5 = .ok (.return_, 1) := by decide +kernel
theorem dX4_timeAt_0 : decode cX4_timeAt 0 = .ok (.iload_n 1, 1) := by decide +kernel
theorem dX4_timeAt_1 : decode cX4_timeAt 1 = .ok (.ifCond .lt 20, 3) := by decide +kernel
theorem dX4_timeAt_4 : decode cX4_timeAt 4 = .ok (.iload_n 1, 1) := by decide +kernel
theorem dX4_timeAt_5 : decode cX4_timeAt 5 = .ok (.aload_n 0, 1) := by decide +kernel
theorem dX4_timeAt_6 : decode cX4_timeAt 6 = .ok (.getfield 9, 3) := by decide +kernel
theorem dX4_timeAt_9 : decode cX4_timeAt 9 = .ok (.if_icmp .ge 12, 3) := by decide +kernel
theorem dX4_timeAt_12 : decode cX4_timeAt 12 = .ok (.aload_n 0, 1) := by decide +kernel
theorem dX4_timeAt_13 : decode cX4_timeAt 13 = .ok (.getfield 21, 3) := by decide +kernel
theorem dX4_timeAt_16 : decode cX4_timeAt 16 = .ok (.iload_n 1, 1) := by decide +kernel
theorem dX4_timeAt_17 : decode cX4_timeAt 17 = .ok (.iaload, 1) := by decide +kernel
theorem dX4_timeAt_18 : decode cX4_timeAt 18 = .ok (.goto 4, 3) := by decide +kernel
theorem dX4_timeAt_21 : decode cX4_timeAt 21 = .ok (.iconst 0, 1) := by decide +kernel
theorem dX4_timeAt_22 : decode cX4_timeAt 22 = .ok (.ireturn, 1) := by decide +kernel
theorem dX4_keyAt_0 : decode cX4_keyAt 0 = .ok (.iload_n 1, 1) := by decide +kernel
theorem dX4_keyAt_1 : decode cX4_keyAt 1 = .ok (.ifCond .lt 20, 3) := by decide +kernel
theorem dX4_keyAt_4 : decode cX4_keyAt 4 = .ok (.iload_n 1, 1) := by decide +kernel
theorem dX4_keyAt_5 : decode cX4_keyAt 5 = .ok (.aload_n 0, 1) := by decide +kernel
theorem dX4_keyAt_6 : decode cX4_keyAt 6 = .ok (.getfield 9, 3) := by decide +kernel
theorem dX4_keyAt_9 : decode cX4_keyAt 9 = .ok (.if_icmp .ge 12, 3) := by decide +kernel
theorem dX4_keyAt_12 : decode cX4_keyAt 12 = .ok (.aload_n 0, 1) := by decide +kernel
theorem dX4_keyAt_13 : decode cX4_keyAt 13 = .ok (.getfield 25, 3) := by decide +kernel
theorem dX4_keyAt_16 : decode cX4_keyAt 16 = .ok (.iload_n 1, 1) := by decide +kernel
theorem dX4_keyAt_17 : decode cX4_keyAt 17 = .ok (.iaload, 1) := by decide +kernel
theorem dX4_keyAt_18 : decode cX4_keyAt 18 = .ok (.goto 4, 3) := by decide +kernel
theorem dX4_keyAt_21 : decode cX4_keyAt 21 = .ok (.iconst 0, 1) := by decide +kernel
theorem dX4_keyAt_22 : decode cX4_keyAt 22 = .ok (.ireturn, 1) := by decide +kernel
theorem dX4_valueAt_0 : decode cX4_valueAt 0 = .ok (.iload_n 1, 1) := by decide +kernel
theorem dX4_valueAt_1 : decode cX4_valueAt 1 = .ok (.ifCond .lt 20, 3) := by decide +kernel
theorem dX4_valueAt_4 : decode cX4_valueAt 4 = .ok (.iload_n 1, 1) := by decide +kernel
theorem dX4_valueAt_5 : decode cX4_valueAt 5 = .ok (.aload_n 0, 1) := by decide +kernel
theorem dX4_valueAt_6 : decode cX4_valueAt 6 = .ok (.getfield 9, 3) := by decide +kernel
theorem dX4_valueAt_9 : decode cX4_valueAt 9 = .ok (.if_icmp .ge 12, 3) := by decide +kernel
theorem dX4_valueAt_12 : decode cX4_valueAt 12 = .ok (.aload_n 0, 1) := by decide +kernel
theorem dX4_valueAt_13 : decode cX4_valueAt 13 = .ok (.getfield 28, 3) := by decide +kernel
theorem dX4_valueAt_16 : decode cX4_valueAt 16 = .ok (.iload_n 1, 1) := by decide +kernel
theorem dX4_valueAt_17 : decode cX4_valueAt 17 = .ok (.laload, 1) := by decide +kernel
theorem dX4_valueAt_18 : decode cX4_valueAt 18 = .ok (.goto 4, 3) := by decide +kernel
theorem dX4_valueAt_21 : decode cX4_valueAt 21 = .ok (.lconst 0, 1) := by decide +kernel
theorem dX4_valueAt_22 : decode cX4_valueAt 22 = .ok (.lreturn, 1) := by decide +kernel
theorem dX4_add_0 : decode cX4_add 0 = .ok (.aload_n 0, 1) := by decide +kernel
theorem dX4_add_1 : decode cX4_add 1 = .ok (.getfield 9, 3) := by decide +kernel
theorem dX4_add_4 : decode cX4_add 4 = .ok (.aload_n 0, 1) := by decide +kernel
theorem dX4_add_5 : decode cX4_add 5 = .ok (.getfield 21, 3) := by decide +kernel
theorem dX4_add_8 : decode cX4_add 8 = .ok (.arraylength, 1) := by decide +kernel
theorem dX4_add_9 : decode cX4_add 9 = .ok (.if_icmp .lt 5, 3) := by decide +kernel
theorem dX4_add_12 : decode cX4_add 12 = .ok (.iconst 0, 1) := by decide +kernel
theorem dX4_add_13 : decode cX4_add 13 = .ok (.ireturn, 1) := by decide +kernel
theorem dX4_add_14 : decode cX4_add 14 = .ok (.aload_n 0, 1) := by decide +kernel
theorem dX4_add_15 : decode cX4_add 15 = .ok (.aload_n 0, 1) := by decide +kernel
theorem dX4_add_16 : decode cX4_add 16 = .ok (.getfield 9, 3) := by decide +kernel
theorem dX4_add_19 : decode cX4_add 19 = .ok (.iload_n 1, 1) := by decide +kernel
theorem dX4_add_20 : decode cX4_add 20 = .ok (.iload_n 2, 1) := by decide +kernel
theorem dX4_add_21 : decode cX4_add 21 = .ok (.lload_n 3, 1) := by decide +kernel
theorem dX4_add_22 : decode cX4_add 22 = .ok (.invokevirtual 32, 3) := by decide +kernel
theorem dX4_add_25 : decode cX4_add 25 = .ok (.aload_n 0, 1) := by decide +kernel
theorem dX4_add_26 : decode cX4_add 26 = .ok (.dup, 1) := by decide +kernel
theorem dX4_add_27 : decode cX4_add 27 = .ok (.getfield 9, 3) := by decide +kernel
theorem dX4_add_30 : decode cX4_add 30 = .ok (.iconst 1, 1) := by decide +kernel
theorem dX4_add_31 : decode cX4_add 31 = .ok (.iadd, 1) := by decide +kernel
theorem dX4_add_32 : decode cX4_add 32 = .ok (.putfield 9, 3) := by decide +kernel
theorem dX4_add_35 : decode cX4_add 35 = .ok (.iconst 1, 1) := by decide +kernel
theorem dX4_add_36 : decode cX4_add 36 = .ok (.ireturn, 1) := by decide +kernel
theorem dX4_addByTime_0 : decode cX4_addByTime 0 = .ok (.aload_n 0, 1) := by decide +kernel
theorem dX4_addByTime_1 : decode cX4_addByTime 1 = .ok (.getfield 9, 3) := by decide +kernel
theorem dX4_addByTime_4 : decode cX4_addByTime 4 = .ok (.aload_n 0, 1) := by decide +kernel
theorem dX4_addByTime_5 : decode cX4_addByTime 5 = .ok (.getfield 21, 3) := by decide +kernel
theorem dX4_addByTime_8 : decode cX4_addByTime 8 = .ok (.arraylength, 1) := by decide +kernel
theorem dX4_addByTime_9 : decode cX4_addByTime 9 = .ok (.if_icmp .lt 5, 3) := by decide +kernel
theorem dX4_addByTime_12 : decode cX4_addByTime 12 = .ok (.iconst 0, 1) := by decide +kernel
theorem dX4_addByTime_13 : decode cX4_addByTime 13 = .ok (.ireturn, 1) := by decide +kernel
theorem dX4_addByTime_14 : decode cX4_addByTime 14 = .ok (.aload_n 0, 1) := by decide +kernel
theorem dX4_addByTime_15 : decode cX4_addByTime 15 = .ok (.getfield 9, 3) := by decide +kernel
theorem dX4_addByTime_18 : decode cX4_addByTime 18 = .ok (.istore 5, 2) := by decide +kernel
theorem dX4_addByTime_20 : decode cX4_addByTime 20 = .ok (.iload 5, 2) := by decide +kernel
theorem dX4_addByTime_22 : decode cX4_addByTime 22 = .ok (.ifCond .le 55, 3) := by decide +kernel
theorem dX4_addByTime_25 : decode cX4_addByTime 25 = .ok (.aload_n 0, 1) := by decide +kernel
theorem dX4_addByTime_26 : decode cX4_addByTime 26 = .ok (.getfield 21, 3) := by decide +kernel
theorem dX4_addByTime_29 : decode cX4_addByTime 29 = .ok (.iload 5, 2) := by decide +kernel
theorem dX4_addByTime_31 : decode cX4_addByTime 31 = .ok (.iconst 1, 1) := by decide +kernel
theorem dX4_addByTime_32 : decode cX4_addByTime 32 = .ok (.isub, 1) := by decide +kernel
theorem dX4_addByTime_33 : decode cX4_addByTime 33 = .ok (.iaload, 1) := by decide +kernel
theorem dX4_addByTime_34 : decode cX4_addByTime 34 = .ok (.iload_n 1, 1) := by decide +kernel
theorem dX4_addByTime_35 : decode cX4_addByTime 35 = .ok (.if_icmp .le 42, 3) := by decide +kernel
theorem dX4_addByTime_38 : decode cX4_addByTime 38 = .ok (.aload_n 0, 1) := by decide +kernel
theorem dX4_addByTime_39 : decode cX4_addByTime 39 = .ok (.iload 5, 2) := by decide +kernel
theorem dX4_addByTime_41 : decode cX4_addByTime 41 = .ok (.aload_n 0, 1) := by decide +kernel
theorem dX4_addByTime_42 : decode cX4_addByTime 42 = .ok (.getfield 21, 3) := by decide +kernel
theorem dX4_addByTime_45 : decode cX4_addByTime 45 = .ok (.iload 5, 2) := by decide +kernel
theorem dX4_addByTime_47 : decode cX4_addByTime 47 = .ok (.iconst 1, 1) := by decide +kernel
theorem dX4_addByTime_48 : decode cX4_addByTime 48 = .ok (.isub, 1) := by decide +kernel
theorem dX4_addByTime_49 : decode cX4_addByTime 49 = .ok (.iaload, 1) := by decide +kernel
theorem dX4_addByTime_50 : decode cX4_addByTime 50 = .ok (.aload_n 0, 1) := by decide +kernel
theorem dX4_addByTime_51 : decode cX4_addByTime 51 = .ok (.getfield 25, 3) := by decide +kernel
theorem dX4_addByTime_54 : decode cX4_addByTime 54 = .ok (.iload 5, 2) := by decide +kernel
theorem dX4_addByTime_56 : decode cX4_addByTime 56 = .ok (.iconst 1, 1) := by decide +kernel
theorem dX4_addByTime_57 : decode cX4_addByTime 57 = .ok (.isub, 1) := by decide +kernel
theorem dX4_addByTime_58 : decode cX4_addByTime 58 = .ok (.iaload, 1) := by decide +kernel
theorem dX4_addByTime_59 : decode cX4_addByTime 59 = .ok (.aload_n 0, 1) := by decide +kernel
theorem dX4_addByTime_60 : decode cX4_addByTime 60 = .ok (.getfield 28, 3) := by decide +kernel
theorem dX4_addByTime_63 : decode cX4_addByTime 63 = .ok (.iload 5, 2) := by decide +kernel
theorem dX4_addByTime_65 : decode cX4_addByTime 65 = .ok (.iconst 1, 1) := by decide +kernel
theorem dX4_addByTime_66 : decode cX4_addByTime 66 = .ok (.isub, 1) := by decide +kernel
theorem dX4_addByTime_67 : decode cX4_addByTime 67 = .ok (.laload, 1) := by decide +kernel
theorem dX4_addByTime_68 : decode cX4_addByTime 68 = .ok (.invokevirtual 32, 3) := by decide +kernel
theorem dX4_addByTime_71 : decode cX4_addByTime 71 = .ok (.iinc 5 (-1), 3) := by decide +kernel
theorem dX4_addByTime_74 : decode cX4_addByTime 74 = .ok (.goto (-54), 3) := by decide +kernel
theorem dX4_addByTime_77 : decode cX4_addByTime 77 = .ok (.aload_n 0, 1) := by decide +kernel
theorem dX4_addByTime_78 : decode cX4_addByTime 78 = .ok (.iload 5, 2) := by decide +kernel
theorem dX4_addByTime_80 : decode cX4_addByTime 80 = .ok (.iload_n 1, 1) := by decide +kernel
theorem dX4_addByTime_81 : decode cX4_addByTime 81 = .ok (.iload_n 2, 1) := by decide +kernel
theorem dX4_addByTime_82 : decode cX4_addByTime 82 = .ok (.lload_n 3, 1) := by decide +kernel
theorem dX4_addByTime_83 : decode cX4_addByTime 83 = .ok (.invokevirtual 32, 3) := by decide +kernel
theorem dX4_addByTime_86 : decode cX4_addByTime 86 = .ok (.aload_n 0, 1) := by decide +kernel
theorem dX4_addByTime_87 : decode cX4_addByTime 87 = .ok (.dup, 1) := by decide +kernel
theorem dX4_addByTime_88 : decode cX4_addByTime 88 = .ok (.getfield 9, 3) := by decide +kernel
theorem dX4_addByTime_91 : decode cX4_addByTime 91 = .ok (.iconst 1, 1) := by decide +kernel
theorem dX4_addByTime_92 : decode cX4_addByTime 92 = .ok (.iadd, 1) := by decide +kernel
theorem dX4_addByTime_93 : decode cX4_addByTime 93 = .ok (.putfield 9, 3) := by decide +kernel
theorem dX4_addByTime_96 : decode cX4_addByTime 96 = .ok (.iconst 1, 1) := by decide +kernel
theorem dX4_addByTime_97 : decode cX4_addByTime 97 = .ok (.ireturn, 1) := by decide +kernel
theorem dX4_sortFrom_0 : decode cX4_sortFrom 0 = .ok (.aload_n 0, 1) := by decide +kernel
theorem dX4_sortFrom_1 : decode cX4_sortFrom 1 = .ok (.iconst 0, 1) := by decide +kernel
theorem dX4_sortFrom_2 : decode cX4_sortFrom 2 = .ok (.putfield 9, 3) := by decide +kernel
theorem dX4_sortFrom_5 : decode cX4_sortFrom 5 = .ok (.iconst 0, 1) := by decide +kernel
theorem dX4_sortFrom_6 : decode cX4_sortFrom 6 = .ok (.istore_n 2, 1) := by decide +kernel
theorem dX4_sortFrom_7 : decode cX4_sortFrom 7 = .ok (.iload_n 2, 1) := by decide +kernel
theorem dX4_sortFrom_8 : decode cX4_sortFrom 8 = .ok (.aload_n 1, 1) := by decide +kernel
theorem dX4_sortFrom_9 : decode cX4_sortFrom 9 = .ok (.getfield 9, 3) := by decide +kernel
theorem dX4_sortFrom_12 : decode cX4_sortFrom 12 = .ok (.if_icmp .ge 28, 3) := by decide +kernel
theorem dX4_sortFrom_15 : decode cX4_sortFrom 15 = .ok (.aload_n 0, 1) := by decide +kernel
theorem dX4_sortFrom_16 : decode cX4_sortFrom 16 = .ok (.aload_n 1, 1) := by decide +kernel
theorem dX4_sortFrom_17 : decode cX4_sortFrom 17 = .ok (.iload_n 2, 1) := by decide +kernel
theorem dX4_sortFrom_18 : decode cX4_sortFrom 18 = .ok (.invokevirtual 36, 3) := by decide +kernel
theorem dX4_sortFrom_21 : decode cX4_sortFrom 21 = .ok (.aload_n 1, 1) := by decide +kernel
theorem dX4_sortFrom_22 : decode cX4_sortFrom 22 = .ok (.iload_n 2, 1) := by decide +kernel
theorem dX4_sortFrom_23 : decode cX4_sortFrom 23 = .ok (.invokevirtual 40, 3) := by decide +kernel
theorem dX4_sortFrom_26 : decode cX4_sortFrom 26 = .ok (.aload_n 1, 1) := by decide +kernel
theorem dX4_sortFrom_27 : decode cX4_sortFrom 27 = .ok (.iload_n 2, 1) := by decide +kernel
theorem dX4_sortFrom_28 : decode cX4_sortFrom 28 = .ok (.invokevirtual 43, 3) := by decide +kernel
theorem dX4_sortFrom_31 : decode cX4_sortFrom 31 = .ok (.invokevirtual 47, 3) := by decide +kernel
theorem dX4_sortFrom_34 : decode cX4_sortFrom 34 = .ok (.iinc 2 1, 3) := by decide +kernel
theorem dX4_sortFrom_37 : decode cX4_sortFrom 37 = .ok (.goto (-30), 3) := by decide +kernel
theorem dX4_sortFrom_40 : decode cX4_sortFrom 40 = .ok (.return_, 1) := by decide +kernel
theorem dX4_addSorted_0 : decode cX4_addSorted 0 = .ok (.aload_n 0, 1) := by decide +kernel
theorem dX4_addSorted_1 : decode cX4_addSorted 1 = .ok (.getfield 9, 3) := by decide +kernel
theorem dX4_addSorted_4 : decode cX4_addSorted 4 = .ok (.aload_n 0, 1) := by decide +kernel
theorem dX4_addSorted_5 : decode cX4_addSorted 5 = .ok (.getfield 21, 3) := by decide +kernel
theorem dX4_addSorted_8 : decode cX4_addSorted 8 = .ok (.arraylength, 1) := by decide +kernel
theorem dX4_addSorted_9 : decode cX4_addSorted 9 = .ok (.if_icmp .lt 4, 3) := by decide +kernel
theorem dX4_addSorted_12 : decode cX4_addSorted 12 = .ok (.return_, 1) := by decide +kernel
theorem dX4_addSorted_13 : decode cX4_addSorted 13 = .ok (.aload_n 0, 1) := by decide +kernel
theorem dX4_addSorted_14 : decode cX4_addSorted 14 = .ok (.getfield 9, 3) := by decide +kernel
theorem dX4_addSorted_17 : decode cX4_addSorted 17 = .ok (.istore 5, 2) := by decide +kernel
theorem dX4_addSorted_19 : decode cX4_addSorted 19 = .ok (.iload 5, 2) := by decide +kernel
theorem dX4_addSorted_21 : decode cX4_addSorted 21 = .ok (.ifCond .le 56, 3) := by decide +kernel
theorem dX4_addSorted_24 : decode cX4_addSorted 24 = .ok (.aload_n 0, 1) := by decide +kernel
theorem dX4_addSorted_25 : decode cX4_addSorted 25 = .ok (.iload 5, 2) := by decide +kernel
theorem dX4_addSorted_27 : decode cX4_addSorted 27 = .ok (.iconst 1, 1) := by decide +kernel
theorem dX4_addSorted_28 : decode cX4_addSorted 28 = .ok (.isub, 1) := by decide +kernel
theorem dX4_addSorted_29 : decode cX4_addSorted 29 = .ok (.iload_n 1, 1) := by decide +kernel
theorem dX4_addSorted_30 : decode cX4_addSorted 30 = .ok (.iload_n 2, 1) := by decide +kernel
theorem dX4_addSorted_31 : decode cX4_addSorted 31 = .ok (.lload_n 3, 1) := by decide +kernel
theorem dX4_addSorted_32 : decode cX4_addSorted 32 = .ok (.invokevirtual 51, 3) := by decide +kernel
theorem dX4_addSorted_35 : decode cX4_addSorted 35 = .ok (.ifCond .eq 42, 3) := by decide +kernel
theorem dX4_addSorted_38 : decode cX4_addSorted 38 = .ok (.aload_n 0, 1) := by decide +kernel
theorem dX4_addSorted_39 : decode cX4_addSorted 39 = .ok (.iload 5, 2) := by decide +kernel
theorem dX4_addSorted_41 : decode cX4_addSorted 41 = .ok (.aload_n 0, 1) := by decide +kernel
theorem dX4_addSorted_42 : decode cX4_addSorted 42 = .ok (.getfield 21, 3) := by decide +kernel
theorem dX4_addSorted_45 : decode cX4_addSorted 45 = .ok (.iload 5, 2) := by decide +kernel
theorem dX4_addSorted_47 : decode cX4_addSorted 47 = .ok (.iconst 1, 1) := by decide +kernel
theorem dX4_addSorted_48 : decode cX4_addSorted 48 = .ok (.isub, 1) := by decide +kernel
theorem dX4_addSorted_49 : decode cX4_addSorted 49 = .ok (.iaload, 1) := by decide +kernel
theorem dX4_addSorted_50 : decode cX4_addSorted 50 = .ok (.aload_n 0, 1) := by decide +kernel
theorem dX4_addSorted_51 : decode cX4_addSorted 51 = .ok (.getfield 25, 3) := by decide +kernel
theorem dX4_addSorted_54 : decode cX4_addSorted 54 = .ok (.iload 5, 2) := by decide +kernel
theorem dX4_addSorted_56 : decode cX4_addSorted 56 = .ok (.iconst 1, 1) := by decide +kernel
theorem dX4_addSorted_57 : decode cX4_addSorted 57 = .ok (.isub, 1) := by decide +kernel
theorem dX4_addSorted_58 : decode cX4_addSorted 58 = .ok (.iaload, 1) := by decide +kernel
theorem dX4_addSorted_59 : decode cX4_addSorted 59 = .ok (.aload_n 0, 1) := by decide +kernel
theorem dX4_addSorted_60 : decode cX4_addSorted 60 = .ok (.getfield 28, 3) := by decide +kernel
theorem dX4_addSorted_63 : decode cX4_addSorted 63 = .ok (.iload 5, 2) := by decide +kernel
theorem dX4_addSorted_65 : decode cX4_addSorted 65 = .ok (.iconst 1, 1) := by decide +kernel
theorem dX4_addSorted_66 : decode cX4_addSorted 66 = .ok (.isub, 1) := by decide +kernel
theorem dX4_addSorted_67 : decode cX4_addSorted 67 = .ok (.laload, 1) := by decide +kernel
theorem dX4_addSorted_68 : decode cX4_addSorted 68 = .ok (.invokevirtual 32, 3) := by decide +kernel
theorem dX4_addSorted_71 : decode cX4_addSorted 71 = .ok (.iinc 5 (-1), 3) := by decide +kernel
theorem dX4_addSorted_74 : decode cX4_addSorted 74 = .ok (.goto (-55), 3) := by decide +kernel
theorem dX4_addSorted_77 : decode cX4_addSorted 77 = .ok (.aload_n 0, 1) := by decide +kernel
theorem dX4_addSorted_78 : decode cX4_addSorted 78 = .ok (.iload 5, 2) := by decide +kernel
theorem dX4_addSorted_80 : decode cX4_addSorted 80 = .ok (.iload_n 1, 1) := by decide +kernel
theorem dX4_addSorted_81 : decode cX4_addSorted 81 = .ok (.iload_n 2, 1) := by decide +kernel
theorem dX4_addSorted_82 : decode cX4_addSorted 82 = .ok (.lload_n 3, 1) := by decide +kernel
theorem dX4_addSorted_83 : decode cX4_addSorted 83 = .ok (.invokevirtual 32, 3) := by decide +kernel
theorem dX4_addSorted_86 : decode cX4_addSorted 86 = .ok (.aload_n 0, 1) := by decide +kernel
theorem dX4_addSorted_87 : decode cX4_addSorted 87 = .ok (.dup, 1) := by decide +kernel
theorem dX4_addSorted_88 : decode cX4_addSorted 88 = .ok (.getfield 9, 3) := by decide +kernel
theorem dX4_addSorted_91 : decode cX4_addSorted 91 = .ok (.iconst 1, 1) := by decide +kernel
theorem dX4_addSorted_92 : decode cX4_addSorted 92 = .ok (.iadd, 1) := by decide +kernel
theorem dX4_addSorted_93 : decode cX4_addSorted 93 = .ok (.putfield 9, 3) := by decide +kernel
theorem dX4_addSorted_96 : decode cX4_addSorted 96 = .ok (.return_, 1) := by decide +kernel
theorem dX4_isAbove_0 : decode cX4_isAbove 0 = .ok (.aload_n 0, 1) := by decide +kernel
theorem dX4_isAbove_1 : decode cX4_isAbove 1 = .ok (.iload_n 1, 1) := by decide +kernel
theorem dX4_isAbove_2 : decode cX4_isAbove 2 = .ok (.iload_n 2, 1) := by decide +kernel
theorem dX4_isAbove_3 : decode cX4_isAbove 3 = .ok (.iload_n 3, 1) := by decide +kernel
theorem dX4_isAbove_4 : decode cX4_isAbove 4 = .ok (.invokevirtual 55, 3) := by decide +kernel
theorem dX4_isAbove_7 : decode cX4_isAbove 7 = .ok (.istore 6, 2) := by decide +kernel
theorem dX4_isAbove_9 : decode cX4_isAbove 9 = .ok (.iload 6, 2) := by decide +kernel
theorem dX4_isAbove_11 : decode cX4_isAbove 11 = .ok (.ifCond .gt 19, 3) := by decide +kernel
theorem dX4_isAbove_14 : decode cX4_isAbove 14 = .ok (.iload 6, 2) := by decide +kernel
theorem dX4_isAbove_16 : decode cX4_isAbove 16 = .ok (.ifCond .ne 18, 3) := by decide +kernel
theorem dX4_isAbove_19 : decode cX4_isAbove 19 = .ok (.aload_n 0, 1) := by decide +kernel
theorem dX4_isAbove_20 : decode cX4_isAbove 20 = .ok (.iload_n 1, 1) := by decide +kernel
theorem dX4_isAbove_21 : decode cX4_isAbove 21 = .ok (.invokevirtual 43, 3) := by decide +kernel
theorem dX4_isAbove_24 : decode cX4_isAbove 24 = .ok (.lload 4, 2) := by decide +kernel
theorem dX4_isAbove_26 : decode cX4_isAbove 26 = .ok (.lcmp, 1) := by decide +kernel
theorem dX4_isAbove_27 : decode cX4_isAbove 27 = .ok (.ifCond .le 7, 3) := by decide +kernel
theorem dX4_isAbove_30 : decode cX4_isAbove 30 = .ok (.iconst 1, 1) := by decide +kernel
theorem dX4_isAbove_31 : decode cX4_isAbove 31 = .ok (.goto 4, 3) := by decide +kernel
theorem dX4_isAbove_34 : decode cX4_isAbove 34 = .ok (.iconst 0, 1) := by decide +kernel
theorem dX4_isAbove_35 : decode cX4_isAbove 35 = .ok (.ireturn, 1) := by decide +kernel
theorem dX4_orderAgainst_0 : decode cX4_orderAgainst 0 = .ok (.aload_n 0, 1) := by decide +kernel
theorem dX4_orderAgainst_1 : decode cX4_orderAgainst 1 = .ok (.iload_n 1, 1) := by decide +kernel
theorem dX4_orderAgainst_2 : decode cX4_orderAgainst 2 = .ok (.invokevirtual 36, 3) := by decide +kernel
theorem dX4_orderAgainst_5 : decode cX4_orderAgainst 5 = .ok (.iload_n 2, 1) := by decide +kernel
theorem dX4_orderAgainst_6 : decode cX4_orderAgainst 6 = .ok (.invokestatic 59, 3) := by decide +kernel
theorem dX4_orderAgainst_9 : decode cX4_orderAgainst 9 = .ok (.istore 4, 2) := by decide +kernel
theorem dX4_orderAgainst_11 : decode cX4_orderAgainst 11 = .ok (.iload 4, 2) := by decide +kernel
theorem dX4_orderAgainst_13 : decode cX4_orderAgainst 13 = .ok (.ifCond .eq 8, 3) := by decide +kernel
theorem dX4_orderAgainst_16 : decode cX4_orderAgainst 16 = .ok (.iload 4, 2) := by decide +kernel
theorem dX4_orderAgainst_18 : decode cX4_orderAgainst 18 = .ok (.goto 12, 3) := by decide +kernel
theorem dX4_orderAgainst_21 : decode cX4_orderAgainst 21 = .ok (.aload_n 0, 1) := by decide +kernel
theorem dX4_orderAgainst_22 : decode cX4_orderAgainst 22 = .ok (.iload_n 1, 1) := by decide +kernel
theorem dX4_orderAgainst_23 : decode cX4_orderAgainst 23 = .ok (.invokevirtual 40, 3) := by decide +kernel
theorem dX4_orderAgainst_26 : decode cX4_orderAgainst 26 = .ok (.iload_n 3, 1) := by decide +kernel
theorem dX4_orderAgainst_27 : decode cX4_orderAgainst 27 = .ok (.invokestatic 59, 3) := by decide +kernel
theorem dX4_orderAgainst_30 : decode cX4_orderAgainst 30 = .ok (.ireturn, 1) := by decide +kernel
theorem dX4_sameAt_0 : decode cX4_sameAt 0 = .ok (.iload_n 1, 1) := by decide +kernel
theorem dX4_sameAt_1 : decode cX4_sameAt 1 = .ok (.aload_n 0, 1) := by decide +kernel
theorem dX4_sameAt_2 : decode cX4_sameAt 2 = .ok (.getfield 9, 3) := by decide +kernel
theorem dX4_sameAt_5 : decode cX4_sameAt 5 = .ok (.if_icmp .ge 47, 3) := by decide +kernel
theorem dX4_sameAt_8 : decode cX4_sameAt 8 = .ok (.iload_n 1, 1) := by decide +kernel
theorem dX4_sameAt_9 : decode cX4_sameAt 9 = .ok (.aload_n 2, 1) := by decide +kernel
theorem dX4_sameAt_10 : decode cX4_sameAt 10 = .ok (.getfield 9, 3) := by decide +kernel
theorem dX4_sameAt_13 : decode cX4_sameAt 13 = .ok (.if_icmp .ge 39, 3) := by decide +kernel
theorem dX4_sameAt_16 : decode cX4_sameAt 16 = .ok (.aload_n 0, 1) := by decide +kernel
theorem dX4_sameAt_17 : decode cX4_sameAt 17 = .ok (.iload_n 1, 1) := by decide +kernel
theorem dX4_sameAt_18 : decode cX4_sameAt 18 = .ok (.aload_n 2, 1) := by decide +kernel
theorem dX4_sameAt_19 : decode cX4_sameAt 19 = .ok (.iload_n 1, 1) := by decide +kernel
theorem dX4_sameAt_20 : decode cX4_sameAt 20 = .ok (.invokevirtual 36, 3) := by decide +kernel
theorem dX4_sameAt_23 : decode cX4_sameAt 23 = .ok (.aload_n 2, 1) := by decide +kernel
theorem dX4_sameAt_24 : decode cX4_sameAt 24 = .ok (.iload_n 1, 1) := by decide +kernel
theorem dX4_sameAt_25 : decode cX4_sameAt 25 = .ok (.invokevirtual 40, 3) := by decide +kernel
theorem dX4_sameAt_28 : decode cX4_sameAt 28 = .ok (.invokevirtual 55, 3) := by decide +kernel
theorem dX4_sameAt_31 : decode cX4_sameAt 31 = .ok (.ifCond .ne 21, 3) := by decide +kernel
theorem dX4_sameAt_34 : decode cX4_sameAt 34 = .ok (.aload_n 0, 1) := by decide +kernel
theorem dX4_sameAt_35 : decode cX4_sameAt 35 = .ok (.iload_n 1, 1) := by decide +kernel
theorem dX4_sameAt_36 : decode cX4_sameAt 36 = .ok (.invokevirtual 43, 3) := by decide +kernel
theorem dX4_sameAt_39 : decode cX4_sameAt 39 = .ok (.aload_n 2, 1) := by decide +kernel
theorem dX4_sameAt_40 : decode cX4_sameAt 40 = .ok (.iload_n 1, 1) := by decide +kernel
theorem dX4_sameAt_41 : decode cX4_sameAt 41 = .ok (.invokevirtual 43, 3) := by decide +kernel
theorem dX4_sameAt_44 : decode cX4_sameAt 44 = .ok (.lcmp, 1) := by decide +kernel
theorem dX4_sameAt_45 : decode cX4_sameAt 45 = .ok (.ifCond .ne 7, 3) := by decide +kernel
theorem dX4_sameAt_48 : decode cX4_sameAt 48 = .ok (.iconst 1, 1) := by decide +kernel
theorem dX4_sameAt_49 : decode cX4_sameAt 49 = .ok (.goto 4, 3) := by decide +kernel
theorem dX4_sameAt_52 : decode cX4_sameAt 52 = .ok (.iconst 0, 1) := by decide +kernel
theorem dX4_sameAt_53 : decode cX4_sameAt 53 = .ok (.ireturn, 1) := by decide +kernel
theorem dX4_firstDifference_0 : decode cX4_firstDifference 0 = .ok (.iconst 0, 1) := by decide +kernel
theorem dX4_firstDifference_1 : decode cX4_firstDifference 1 = .ok (.istore_n 2, 1) := by decide +kernel
theorem dX4_firstDifference_2 : decode cX4_firstDifference 2 = .ok (.iload_n 2, 1) := by decide +kernel
theorem dX4_firstDifference_3 : decode cX4_firstDifference 3 = .ok (.aload_n 0, 1) := by decide +kernel
theorem dX4_firstDifference_4 : decode cX4_firstDifference 4 = .ok (.getfield 9, 3) := by decide +kernel
theorem dX4_firstDifference_7 : decode cX4_firstDifference 7 = .ok (.if_icmp .ge 18, 3) := by decide +kernel
theorem dX4_firstDifference_10 : decode cX4_firstDifference 10 = .ok (.aload_n 0, 1) := by decide +kernel
theorem dX4_firstDifference_11 : decode cX4_firstDifference 11 = .ok (.iload_n 2, 1) := by decide +kernel
theorem dX4_firstDifference_12 : decode cX4_firstDifference 12 = .ok (.aload_n 1, 1) := by decide +kernel
theorem dX4_firstDifference_13 : decode cX4_firstDifference 13 = .ok (.invokevirtual 64, 3) := by decide +kernel
theorem dX4_firstDifference_16 : decode cX4_firstDifference 16 = .ok (.ifCond .eq 9, 3) := by decide +kernel
theorem dX4_firstDifference_19 : decode cX4_firstDifference 19 = .ok (.iinc 2 1, 3) := by decide +kernel
theorem dX4_firstDifference_22 : decode cX4_firstDifference 22 = .ok (.goto (-20), 3) := by decide +kernel
theorem dX4_firstDifference_25 : decode cX4_firstDifference 25 = .ok (.iload_n 2, 1) := by decide +kernel
theorem dX4_firstDifference_26 : decode cX4_firstDifference 26 = .ok (.ireturn, 1) := by decide +kernel
theorem dX4_howManyOf_0 : decode cX4_howManyOf 0 = .ok (.iconst 0, 1) := by decide +kernel
theorem dX4_howManyOf_1 : decode cX4_howManyOf 1 = .ok (.istore_n 3, 1) := by decide +kernel
theorem dX4_howManyOf_2 : decode cX4_howManyOf 2 = .ok (.iconst 0, 1) := by decide +kernel
theorem dX4_howManyOf_3 : decode cX4_howManyOf 3 = .ok (.istore 4, 2) := by decide +kernel
theorem dX4_howManyOf_5 : decode cX4_howManyOf 5 = .ok (.iload 4, 2) := by decide +kernel
theorem dX4_howManyOf_7 : decode cX4_howManyOf 7 = .ok (.aload_n 0, 1) := by decide +kernel
theorem dX4_howManyOf_8 : decode cX4_howManyOf 8 = .ok (.getfield 9, 3) := by decide +kernel
theorem dX4_howManyOf_11 : decode cX4_howManyOf 11 = .ok (.if_icmp .ge 23, 3) := by decide +kernel
theorem dX4_howManyOf_14 : decode cX4_howManyOf 14 = .ok (.aload_n 0, 1) := by decide +kernel
theorem dX4_howManyOf_15 : decode cX4_howManyOf 15 = .ok (.iload 4, 2) := by decide +kernel
theorem dX4_howManyOf_17 : decode cX4_howManyOf 17 = .ok (.iload_n 1, 1) := by decide +kernel
theorem dX4_howManyOf_18 : decode cX4_howManyOf 18 = .ok (.iload_n 2, 1) := by decide +kernel
theorem dX4_howManyOf_19 : decode cX4_howManyOf 19 = .ok (.invokevirtual 55, 3) := by decide +kernel
theorem dX4_howManyOf_22 : decode cX4_howManyOf 22 = .ok (.ifCond .ne 6, 3) := by decide +kernel
theorem dX4_howManyOf_25 : decode cX4_howManyOf 25 = .ok (.iinc 3 1, 3) := by decide +kernel
theorem dX4_howManyOf_28 : decode cX4_howManyOf 28 = .ok (.iinc 4 1, 3) := by decide +kernel
theorem dX4_howManyOf_31 : decode cX4_howManyOf 31 = .ok (.goto (-26), 3) := by decide +kernel
theorem dX4_howManyOf_34 : decode cX4_howManyOf 34 = .ok (.iload_n 3, 1) := by decide +kernel
theorem dX4_howManyOf_35 : decode cX4_howManyOf 35 = .ok (.ireturn, 1) := by decide +kernel
theorem dX4_nextOfKey_0 : decode cX4_nextOfKey 0 = .ok (.aload_n 0, 1) := by decide +kernel
theorem dX4_nextOfKey_1 : decode cX4_nextOfKey 1 = .ok (.iload_n 1, 1) := by decide +kernel
theorem dX4_nextOfKey_2 : decode cX4_nextOfKey 2 = .ok (.invokevirtual 40, 3) := by decide +kernel
theorem dX4_nextOfKey_5 : decode cX4_nextOfKey 5 = .ok (.istore_n 2, 1) := by decide +kernel
theorem dX4_nextOfKey_6 : decode cX4_nextOfKey 6 = .ok (.iload_n 1, 1) := by decide +kernel
theorem dX4_nextOfKey_7 : decode cX4_nextOfKey 7 = .ok (.iconst 1, 1) := by decide +kernel
theorem dX4_nextOfKey_8 : decode cX4_nextOfKey 8 = .ok (.iadd, 1) := by decide +kernel
theorem dX4_nextOfKey_9 : decode cX4_nextOfKey 9 = .ok (.istore_n 3, 1) := by decide +kernel
theorem dX4_nextOfKey_10 : decode cX4_nextOfKey 10 = .ok (.iload_n 3, 1) := by decide +kernel
theorem dX4_nextOfKey_11 : decode cX4_nextOfKey 11 = .ok (.aload_n 0, 1) := by decide +kernel
theorem dX4_nextOfKey_12 : decode cX4_nextOfKey 12 = .ok (.getfield 9, 3) := by decide +kernel
theorem dX4_nextOfKey_15 : decode cX4_nextOfKey 15 = .ok (.if_icmp .ge 20, 3) := by decide +kernel
theorem dX4_nextOfKey_18 : decode cX4_nextOfKey 18 = .ok (.aload_n 0, 1) := by decide +kernel
theorem dX4_nextOfKey_19 : decode cX4_nextOfKey 19 = .ok (.iload_n 3, 1) := by decide +kernel
theorem dX4_nextOfKey_20 : decode cX4_nextOfKey 20 = .ok (.invokevirtual 40, 3) := by decide +kernel
theorem dX4_nextOfKey_23 : decode cX4_nextOfKey 23 = .ok (.iload_n 2, 1) := by decide +kernel
theorem dX4_nextOfKey_24 : decode cX4_nextOfKey 24 = .ok (.if_icmp .ne 5, 3) := by decide +kernel
theorem dX4_nextOfKey_27 : decode cX4_nextOfKey 27 = .ok (.iload_n 3, 1) := by decide +kernel
theorem dX4_nextOfKey_28 : decode cX4_nextOfKey 28 = .ok (.ireturn, 1) := by decide +kernel
theorem dX4_nextOfKey_29 : decode cX4_nextOfKey 29 = .ok (.iinc 3 1, 3) := by decide +kernel
theorem dX4_nextOfKey_32 : decode cX4_nextOfKey 32 = .ok (.goto (-22), 3) := by decide +kernel
theorem dX4_nextOfKey_35 : decode cX4_nextOfKey 35 = .ok (.iconst (-1), 1) := by decide +kernel
theorem dX4_nextOfKey_36 : decode cX4_nextOfKey 36 = .ok (.ireturn, 1) := by decide +kernel
theorem dX4_put_0 : decode cX4_put 0 = .ok (.iload_n 1, 1) := by decide +kernel
theorem dX4_put_1 : decode cX4_put 1 = .ok (.ifCond .lt 34, 3) := by decide +kernel
theorem dX4_put_4 : decode cX4_put 4 = .ok (.iload_n 1, 1) := by decide +kernel
theorem dX4_put_5 : decode cX4_put 5 = .ok (.aload_n 0, 1) := by decide +kernel
theorem dX4_put_6 : decode cX4_put 6 = .ok (.getfield 21, 3) := by decide +kernel
theorem dX4_put_9 : decode cX4_put 9 = .ok (.arraylength, 1) := by decide +kernel
theorem dX4_put_10 : decode cX4_put 10 = .ok (.if_icmp .ge 25, 3) := by decide +kernel
theorem dX4_put_13 : decode cX4_put 13 = .ok (.aload_n 0, 1) := by decide +kernel
theorem dX4_put_14 : decode cX4_put 14 = .ok (.getfield 21, 3) := by decide +kernel
theorem dX4_put_17 : decode cX4_put 17 = .ok (.iload_n 1, 1) := by decide +kernel
theorem dX4_put_18 : decode cX4_put 18 = .ok (.iload_n 2, 1) := by decide +kernel
theorem dX4_put_19 : decode cX4_put 19 = .ok (.iastore, 1) := by decide +kernel
theorem dX4_put_20 : decode cX4_put 20 = .ok (.aload_n 0, 1) := by decide +kernel
theorem dX4_put_21 : decode cX4_put 21 = .ok (.getfield 25, 3) := by decide +kernel
theorem dX4_put_24 : decode cX4_put 24 = .ok (.iload_n 1, 1) := by decide +kernel
theorem dX4_put_25 : decode cX4_put 25 = .ok (.iload_n 3, 1) := by decide +kernel
theorem dX4_put_26 : decode cX4_put 26 = .ok (.iastore, 1) := by decide +kernel
theorem dX4_put_27 : decode cX4_put 27 = .ok (.aload_n 0, 1) := by decide +kernel
theorem dX4_put_28 : decode cX4_put 28 = .ok (.getfield 28, 3) := by decide +kernel
theorem dX4_put_31 : decode cX4_put 31 = .ok (.iload_n 1, 1) := by decide +kernel
theorem dX4_put_32 : decode cX4_put 32 = .ok (.lload 4, 2) := by decide +kernel
theorem dX4_put_34 : decode cX4_put 34 = .ok (.lastore, 1) := by decide +kernel
theorem dX4_put_35 : decode cX4_put 35 = .ok (.return_, 1) := by decide +kernel
theorem dX5_init_0 : decode cX5_init 0 = .ok (.aload_n 0, 1) := by decide +kernel
theorem dX5_init_1 : decode cX5_init 1 = .ok (.invokespecial 3, 3) := by decide +kernel
theorem dX5_init_4 : decode cX5_init 4 = .ok (.aload_n 0, 1) := by decide +kernel
theorem dX5_init_5 : decode cX5_init 5 = .ok (.bipush 6, 2) := by decide +kernel
theorem dX5_init_7 : decode cX5_init 7 = .ok (.newarray .int, 2) := by decide +kernel
theorem dX5_init_9 : decode cX5_init 9 = .ok (.putfield 9, 3) := by decide +kernel
theorem dX5_init_12 : decode cX5_init 12 = .ok (.aload_n 0, 1) := by decide +kernel
theorem dX5_init_13 : decode cX5_init 13 = .ok (.bipush 6, 2) := by decide +kernel
theorem dX5_init_15 : decode cX5_init 15 = .ok (.newarray .long, 2) := by decide +kernel
theorem dX5_init_17 : decode cX5_init 17 = .ok (.putfield 15, 3) := by decide +kernel
theorem dX5_init_20 : decode cX5_init 20 = .ok (.return_, 1) := by decide +kernel
theorem dX5_empty_0 : decode cX5_empty 0 = .ok (.iconst 0, 1) := by decide +kernel
theorem dX5_empty_1 : decode cX5_empty 1 = .ok (.istore_n 1, 1) := by decide +kernel
theorem dX5_empty_2 : decode cX5_empty 2 = .ok (.iload_n 1, 1) := by decide +kernel
theorem dX5_empty_3 : decode cX5_empty 3 = .ok (.bipush 6, 2) := by decide +kernel
theorem dX5_empty_5 : decode cX5_empty 5 = .ok (.if_icmp .ge 23, 3) := by decide +kernel
theorem dX5_empty_8 : decode cX5_empty 8 = .ok (.aload_n 0, 1) := by decide +kernel
theorem dX5_empty_9 : decode cX5_empty 9 = .ok (.getfield 9, 3) := by decide +kernel
theorem dX5_empty_12 : decode cX5_empty 12 = .ok (.iload_n 1, 1) := by decide +kernel
theorem dX5_empty_13 : decode cX5_empty 13 = .ok (.iconst 0, 1) := by decide +kernel
theorem dX5_empty_14 : decode cX5_empty 14 = .ok (.iastore, 1) := by decide +kernel
theorem dX5_empty_15 : decode cX5_empty 15 = .ok (.aload_n 0, 1) := by decide +kernel
theorem dX5_empty_16 : decode cX5_empty 16 = .ok (.getfield 15, 3) := by decide +kernel
theorem dX5_empty_19 : decode cX5_empty 19 = .ok (.iload_n 1, 1) := by decide +kernel
theorem dX5_empty_20 : decode cX5_empty 20 = .ok (.lconst 0, 1) := by decide +kernel
theorem dX5_empty_21 : decode cX5_empty 21 = .ok (.lastore, 1) := by decide +kernel
theorem dX5_empty_22 : decode cX5_empty 22 = .ok (.iinc 1 1, 3) := by decide +kernel
theorem dX5_empty_25 : decode cX5_empty 25 = .ok (.goto (-23), 3) := by decide +kernel
theorem dX5_empty_28 : decode cX5_empty 28 = .ok (.return_, 1) := by decide +kernel
theorem dX5_take_0 : decode cX5_take 0 = .ok (.iload_n 1, 1) := by decide +kernel
theorem dX5_take_1 : decode cX5_take 1 = .ok (.ifCond .lt 9, 3) := by decide +kernel
theorem dX5_take_4 : decode cX5_take 4 = .ok (.iload_n 1, 1) := by decide +kernel
theorem dX5_take_5 : decode cX5_take 5 = .ok (.bipush 6, 2) := by decide +kernel
theorem dX5_take_7 : decode cX5_take 7 = .ok (.if_icmp .lt 4, 3) := by decide +kernel
theorem dX5_take_10 : decode cX5_take 10 = .ok (.return_, 1) := by decide +kernel
theorem dX5_take_11 : decode cX5_take 11 = .ok (.aload_n 0, 1) := by decide +kernel
theorem dX5_take_12 : decode cX5_take 12 = .ok (.getfield 15, 3) := by decide +kernel
theorem dX5_take_15 : decode cX5_take 15 = .ok (.iload_n 1, 1) := by decide +kernel
theorem dX5_take_16 : decode cX5_take 16 = .ok (.aload_n 0, 1) := by decide +kernel
theorem dX5_take_17 : decode cX5_take 17 = .ok (.getfield 9, 3) := by decide +kernel
theorem dX5_take_20 : decode cX5_take 20 = .ok (.iload_n 1, 1) := by decide +kernel
theorem dX5_take_21 : decode cX5_take 21 = .ok (.iaload, 1) := by decide +kernel
theorem dX5_take_22 : decode cX5_take 22 = .ok (.ifCond .ne 12, 3) := by decide +kernel
theorem dX5_take_25 : decode cX5_take 25 = .ok (.lload_n 2, 1) := by decide +kernel
theorem dX5_take_26 : decode cX5_take 26 = .ok (.iload 4, 2) := by decide +kernel
theorem dX5_take_28 : decode cX5_take 28 = .ok (.invokestatic 19, 3) := by decide +kernel
theorem dX5_take_31 : decode cX5_take 31 = .ok (.goto 15, 3) := by decide +kernel
theorem dX5_take_34 : decode cX5_take 34 = .ok (.aload_n 0, 1) := by decide +kernel
theorem dX5_take_35 : decode cX5_take 35 = .ok (.getfield 15, 3) := by decide +kernel
theorem dX5_take_38 : decode cX5_take 38 = .ok (.iload_n 1, 1) := by decide +kernel
theorem dX5_take_39 : decode cX5_take 39 = .ok (.laload, 1) := by decide +kernel
theorem dX5_take_40 : decode cX5_take 40 = .ok (.lload_n 2, 1) := by decide +kernel
theorem dX5_take_41 : decode cX5_take 41 = .ok (.iload 4, 2) := by decide +kernel
theorem dX5_take_43 : decode cX5_take 43 = .ok (.invokestatic 23, 3) := by decide +kernel
theorem dX5_take_46 : decode cX5_take 46 = .ok (.lastore, 1) := by decide +kernel
theorem dX5_take_47 : decode cX5_take 47 = .ok (.aload_n 0, 1) := by decide +kernel
theorem dX5_take_48 : decode cX5_take 48 = .ok (.getfield 9, 3) := by decide +kernel
theorem dX5_take_51 : decode cX5_take 51 = .ok (.iload_n 1, 1) := by decide +kernel
theorem dX5_take_52 : decode cX5_take 52 = .ok (.dup2, 1) := by decide +kernel
theorem dX5_take_53 : decode cX5_take 53 = .ok (.iaload, 1) := by decide +kernel
theorem dX5_take_54 : decode cX5_take 54 = .ok (.iconst 1, 1) := by decide +kernel
theorem dX5_take_55 : decode cX5_take 55 = .ok (.iadd, 1) := by decide +kernel
theorem dX5_take_56 : decode cX5_take 56 = .ok (.iastore, 1) := by decide +kernel
theorem dX5_take_57 : decode cX5_take 57 = .ok (.return_, 1) := by decide +kernel
theorem dX5_startOf_0 : decode cX5_startOf 0 = .ok (.iload_n 2, 1) := by decide +kernel
theorem dX5_startOf_1 : decode cX5_startOf 1 = .ok (.iconst 1, 1) := by decide +kernel
theorem dX5_startOf_2 : decode cX5_startOf 2 = .ok (.if_icmp .ne 7, 3) := by decide +kernel
theorem dX5_startOf_5 : decode cX5_startOf 5 = .ok (.lconst 1, 1) := by decide +kernel
theorem dX5_startOf_6 : decode cX5_startOf 6 = .ok (.goto 4, 3) := by decide +kernel
theorem dX5_startOf_9 : decode cX5_startOf 9 = .ok (.lload_n 0, 1) := by decide +kernel
theorem dX5_startOf_10 : decode cX5_startOf 10 = .ok (.lreturn, 1) := by decide +kernel
theorem dX5_nextOf_0 : decode cX5_nextOf 0 = .ok (.iload 4, 2) := by decide +kernel
theorem dX5_nextOf_2 : decode cX5_nextOf 2 = .ok (.tableswitch 50 0 3 #[30, 34, 38, 44], 30) := by decide +kernel
theorem dX5_nextOf_32 : decode cX5_nextOf 32 = .ok (.lload_n 0, 1) := by decide +kernel
theorem dX5_nextOf_33 : decode cX5_nextOf 33 = .ok (.lload_n 2, 1) := by decide +kernel
theorem dX5_nextOf_34 : decode cX5_nextOf 34 = .ok (.ladd, 1) := by decide +kernel
theorem dX5_nextOf_35 : decode cX5_nextOf 35 = .ok (.lreturn, 1) := by decide +kernel
theorem dX5_nextOf_36 : decode cX5_nextOf 36 = .ok (.lload_n 0, 1) := by decide +kernel
theorem dX5_nextOf_37 : decode cX5_nextOf 37 = .ok (.lconst 1, 1) := by decide +kernel
theorem dX5_nextOf_38 : decode cX5_nextOf 38 = .ok (.ladd, 1) := by decide +kernel
theorem dX5_nextOf_39 : decode cX5_nextOf 39 = .ok (.lreturn, 1) := by decide +kernel
theorem dX5_nextOf_40 : decode cX5_nextOf 40 = .ok (.lload_n 0, 1) := by decide +kernel
theorem dX5_nextOf_41 : decode cX5_nextOf 41 = .ok (.lload_n 2, 1) := by decide +kernel
theorem dX5_nextOf_42 : decode cX5_nextOf 42 = .ok (.invokestatic 27, 3) := by decide +kernel
theorem dX5_nextOf_45 : decode cX5_nextOf 45 = .ok (.lreturn, 1) := by decide +kernel
theorem dX5_nextOf_46 : decode cX5_nextOf 46 = .ok (.lload_n 0, 1) := by decide +kernel
theorem dX5_nextOf_47 : decode cX5_nextOf 47 = .ok (.lload_n 2, 1) := by decide +kernel
theorem dX5_nextOf_48 : decode cX5_nextOf 48 = .ok (.invokestatic 33, 3) := by decide +kernel
theorem dX5_nextOf_51 : decode cX5_nextOf 51 = .ok (.lreturn, 1) := by decide +kernel
theorem dX5_nextOf_52 : decode cX5_nextOf 52 = .ok (.lload_n 2, 1) := by decide +kernel
theorem dX5_nextOf_53 : decode cX5_nextOf 53 = .ok (.lreturn, 1) := by decide +kernel
theorem dX5_closeInto_0 : decode cX5_closeInto 0 = .ok (.iconst 0, 1) := by decide +kernel
theorem dX5_closeInto_1 : decode cX5_closeInto 1 = .ok (.istore_n 3, 1) := by decide +kernel
theorem dX5_closeInto_2 : decode cX5_closeInto 2 = .ok (.iload_n 3, 1) := by decide +kernel
theorem dX5_closeInto_3 : decode cX5_closeInto 3 = .ok (.bipush 6, 2) := by decide +kernel
theorem dX5_closeInto_5 : decode cX5_closeInto 5 = .ok (.if_icmp .ge 35, 3) := by decide +kernel
theorem dX5_closeInto_8 : decode cX5_closeInto 8 = .ok (.aload_n 0, 1) := by decide +kernel
theorem dX5_closeInto_9 : decode cX5_closeInto 9 = .ok (.getfield 9, 3) := by decide +kernel
theorem dX5_closeInto_12 : decode cX5_closeInto 12 = .ok (.iload_n 3, 1) := by decide +kernel
theorem dX5_closeInto_13 : decode cX5_closeInto 13 = .ok (.iaload, 1) := by decide +kernel
theorem dX5_closeInto_14 : decode cX5_closeInto 14 = .ok (.ifCond .le 20, 3) := by decide +kernel
theorem dX5_closeInto_17 : decode cX5_closeInto 17 = .ok (.aload_n 1, 1) := by decide +kernel
theorem dX5_closeInto_18 : decode cX5_closeInto 18 = .ok (.iload_n 2, 1) := by decide +kernel
theorem dX5_closeInto_19 : decode cX5_closeInto 19 = .ok (.iload_n 3, 1) := by decide +kernel
theorem dX5_closeInto_20 : decode cX5_closeInto 20 = .ok (.aload_n 0, 1) := by decide +kernel
theorem dX5_closeInto_21 : decode cX5_closeInto 21 = .ok (.getfield 15, 3) := by decide +kernel
theorem dX5_closeInto_24 : decode cX5_closeInto 24 = .ok (.iload_n 3, 1) := by decide +kernel
theorem dX5_closeInto_25 : decode cX5_closeInto 25 = .ok (.laload, 1) := by decide +kernel
theorem dX5_closeInto_26 : decode cX5_closeInto 26 = .ok (.invokevirtual 36, 3) := by decide +kernel
theorem dX5_closeInto_29 : decode cX5_closeInto 29 = .ok (.ifCond .ne 5, 3) := by decide +kernel
theorem dX5_closeInto_32 : decode cX5_closeInto 32 = .ok (.iconst 0, 1) := by decide +kernel
theorem dX5_closeInto_33 : decode cX5_closeInto 33 = .ok (.ireturn, 1) := by decide +kernel
theorem dX5_closeInto_34 : decode cX5_closeInto 34 = .ok (.iinc 3 1, 3) := by decide +kernel
theorem dX5_closeInto_37 : decode cX5_closeInto 37 = .ok (.goto (-35), 3) := by decide +kernel
theorem dX5_closeInto_40 : decode cX5_closeInto 40 = .ok (.aload_n 0, 1) := by decide +kernel
theorem dX5_closeInto_41 : decode cX5_closeInto 41 = .ok (.invokevirtual 42, 3) := by decide +kernel
theorem dX5_closeInto_44 : decode cX5_closeInto 44 = .ok (.iconst 1, 1) := by decide +kernel
theorem dX5_closeInto_45 : decode cX5_closeInto 45 = .ok (.ireturn, 1) := by decide +kernel
theorem dX6_init_0 : decode cX6_init 0 = .ok (.aload_n 0, 1) := by decide +kernel
theorem dX6_init_1 : decode cX6_init 1 = .ok (.invokespecial 3, 3) := by decide +kernel
theorem dX6_init_4 : decode cX6_init 4 = .ok (.aload_n 0, 1) := by decide +kernel
theorem dX6_init_5 : decode cX6_init 5 = .ok (.bipush 8, 2) := by decide +kernel
theorem dX6_init_7 : decode cX6_init 7 = .ok (.newarray .int, 2) := by decide +kernel
theorem dX6_init_9 : decode cX6_init 9 = .ok (.putfield 9, 3) := by decide +kernel
theorem dX6_init_12 : decode cX6_init 12 = .ok (.return_, 1) := by decide +kernel
theorem dX6_empty_0 : decode cX6_empty 0 = .ok (.iconst 0, 1) := by decide +kernel
theorem dX6_empty_1 : decode cX6_empty 1 = .ok (.istore_n 1, 1) := by decide +kernel
theorem dX6_empty_2 : decode cX6_empty 2 = .ok (.iload_n 1, 1) := by decide +kernel
theorem dX6_empty_3 : decode cX6_empty 3 = .ok (.aload_n 0, 1) := by decide +kernel
theorem dX6_empty_4 : decode cX6_empty 4 = .ok (.getfield 9, 3) := by decide +kernel
theorem dX6_empty_7 : decode cX6_empty 7 = .ok (.arraylength, 1) := by decide +kernel
theorem dX6_empty_8 : decode cX6_empty 8 = .ok (.if_icmp .ge 16, 3) := by decide +kernel
theorem dX6_empty_11 : decode cX6_empty 11 = .ok (.aload_n 0, 1) := by decide +kernel
theorem dX6_empty_12 : decode cX6_empty 12 = .ok (.getfield 9, 3) := by decide +kernel
theorem dX6_empty_15 : decode cX6_empty 15 = .ok (.iload_n 1, 1) := by decide +kernel
theorem dX6_empty_16 : decode cX6_empty 16 = .ok (.iconst 0, 1) := by decide +kernel
theorem dX6_empty_17 : decode cX6_empty 17 = .ok (.iastore, 1) := by decide +kernel
theorem dX6_empty_18 : decode cX6_empty 18 = .ok (.iinc 1 1, 3) := by decide +kernel
theorem dX6_empty_21 : decode cX6_empty 21 = .ok (.goto (-19), 3) := by decide +kernel
theorem dX6_empty_24 : decode cX6_empty 24 = .ok (.return_, 1) := by decide +kernel
theorem dX6_swap_0 : decode cX6_swap 0 = .ok (.iload_n 1, 1) := by decide +kernel
theorem dX6_swap_1 : decode cX6_swap 1 = .ok (.ifCond .lt 12, 3) := by decide +kernel
theorem dX6_swap_4 : decode cX6_swap 4 = .ok (.iload_n 1, 1) := by decide +kernel
theorem dX6_swap_5 : decode cX6_swap 5 = .ok (.aload_n 0, 1) := by decide +kernel
theorem dX6_swap_6 : decode cX6_swap 6 = .ok (.getfield 9, 3) := by decide +kernel
theorem dX6_swap_9 : decode cX6_swap 9 = .ok (.arraylength, 1) := by decide +kernel
theorem dX6_swap_10 : decode cX6_swap 10 = .ok (.if_icmp .lt 5, 3) := by decide +kernel
theorem dX6_swap_13 : decode cX6_swap 13 = .ok (.iconst (-1), 1) := by decide +kernel
theorem dX6_swap_14 : decode cX6_swap 14 = .ok (.ireturn, 1) := by decide +kernel
theorem dX6_swap_15 : decode cX6_swap 15 = .ok (.aload_n 0, 1) := by decide +kernel
theorem dX6_swap_16 : decode cX6_swap 16 = .ok (.getfield 9, 3) := by decide +kernel
theorem dX6_swap_19 : decode cX6_swap 19 = .ok (.iload_n 1, 1) := by decide +kernel
theorem dX6_swap_20 : decode cX6_swap 20 = .ok (.iaload, 1) := by decide +kernel
theorem dX6_swap_21 : decode cX6_swap 21 = .ok (.istore_n 3, 1) := by decide +kernel
theorem dX6_swap_22 : decode cX6_swap 22 = .ok (.aload_n 0, 1) := by decide +kernel
theorem dX6_swap_23 : decode cX6_swap 23 = .ok (.getfield 9, 3) := by decide +kernel
theorem dX6_swap_26 : decode cX6_swap 26 = .ok (.iload_n 1, 1) := by decide +kernel
theorem dX6_swap_27 : decode cX6_swap 27 = .ok (.iload_n 2, 1) := by decide +kernel
theorem dX6_swap_28 : decode cX6_swap 28 = .ok (.iastore, 1) := by decide +kernel
theorem dX6_swap_29 : decode cX6_swap 29 = .ok (.iload_n 3, 1) := by decide +kernel
theorem dX6_swap_30 : decode cX6_swap 30 = .ok (.ireturn, 1) := by decide +kernel
theorem dX6_failureOf_0 : decode cX6_failureOf 0 = .ok (.iload_n 1, 1) := by decide +kernel
theorem dX6_failureOf_1 : decode cX6_failureOf 1 = .ok (.iconst 2, 1) := by decide +kernel
theorem dX6_failureOf_2 : decode cX6_failureOf 2 = .ok (.if_icmp .eq 8, 3) := by decide +kernel
theorem dX6_failureOf_5 : decode cX6_failureOf 5 = .ok (.iload_n 1, 1) := by decide +kernel
theorem dX6_failureOf_6 : decode cX6_failureOf 6 = .ok (.iconst 3, 1) := by decide +kernel
theorem dX6_failureOf_7 : decode cX6_failureOf 7 = .ok (.if_icmp .ne 10, 3) := by decide +kernel
theorem dX6_failureOf_10 : decode cX6_failureOf 10 = .ok (.iload 4, 2) := by decide +kernel
theorem dX6_failureOf_12 : decode cX6_failureOf 12 = .ok (.ifCond .ne 5, 3) := by decide +kernel
theorem dX6_failureOf_15 : decode cX6_failureOf 15 = .ok (.iconst 0, 1) := by decide +kernel
theorem dX6_failureOf_16 : decode cX6_failureOf 16 = .ok (.ireturn, 1) := by decide +kernel
theorem dX6_failureOf_17 : decode cX6_failureOf 17 = .ok (.iload_n 1, 1) := by decide +kernel
theorem dX6_failureOf_18 : decode cX6_failureOf 18 = .ok (.iconst 4, 1) := by decide +kernel
theorem dX6_failureOf_19 : decode cX6_failureOf 19 = .ok (.if_icmp .ne 15, 3) := by decide +kernel
theorem dX6_failureOf_22 : decode cX6_failureOf 22 = .ok (.aload_n 0, 1) := by decide +kernel
theorem dX6_failureOf_23 : decode cX6_failureOf 23 = .ok (.lload_n 2, 1) := by decide +kernel
theorem dX6_failureOf_24 : decode cX6_failureOf 24 = .ok (.invokevirtual 15, 3) := by decide +kernel
theorem dX6_failureOf_27 : decode cX6_failureOf 27 = .ok (.ifCond .ne 7, 3) := by decide +kernel
theorem dX6_failureOf_30 : decode cX6_failureOf 30 = .ok (.iconst 1, 1) := by decide +kernel
theorem dX6_failureOf_31 : decode cX6_failureOf 31 = .ok (.goto 4, 3) := by decide +kernel
theorem dX6_failureOf_34 : decode cX6_failureOf 34 = .ok (.iconst (-1), 1) := by decide +kernel
theorem dX6_failureOf_35 : decode cX6_failureOf 35 = .ok (.ireturn, 1) := by decide +kernel
theorem dX6_resultOf_0 : decode cX6_resultOf 0 = .ok (.iload_n 1, 1) := by decide +kernel
theorem dX6_resultOf_1 : decode cX6_resultOf 1 = .ok (.tableswitch 117 0 6 #[43, 49, 55, 70, 85, 106, 112], 43) := by decide +kernel
theorem dX6_resultOf_44 : decode cX6_resultOf 44 = .ok (.lload_n 2, 1) := by decide +kernel
theorem dX6_resultOf_45 : decode cX6_resultOf 45 = .ok (.iload 4, 2) := by decide +kernel
theorem dX6_resultOf_47 : decode cX6_resultOf 47 = .ok (.i2l, 1) := by decide +kernel
theorem dX6_resultOf_48 : decode cX6_resultOf 48 = .ok (.ladd, 1) := by decide +kernel
theorem dX6_resultOf_49 : decode cX6_resultOf 49 = .ok (.lreturn, 1) := by decide +kernel
theorem dX6_resultOf_50 : decode cX6_resultOf 50 = .ok (.lload_n 2, 1) := by decide +kernel
theorem dX6_resultOf_51 : decode cX6_resultOf 51 = .ok (.iload 4, 2) := by decide +kernel
theorem dX6_resultOf_53 : decode cX6_resultOf 53 = .ok (.i2l, 1) := by decide +kernel
theorem dX6_resultOf_54 : decode cX6_resultOf 54 = .ok (.lmul, 1) := by decide +kernel
theorem dX6_resultOf_55 : decode cX6_resultOf 55 = .ok (.lreturn, 1) := by decide +kernel
theorem dX6_resultOf_56 : decode cX6_resultOf 56 = .ok (.iload 4, 2) := by decide +kernel
theorem dX6_resultOf_58 : decode cX6_resultOf 58 = .ok (.ifCond .ne 7, 3) := by decide +kernel
theorem dX6_resultOf_61 : decode cX6_resultOf 61 = .ok (.lconst 0, 1) := by decide +kernel
theorem dX6_resultOf_62 : decode cX6_resultOf 62 = .ok (.goto 8, 3) := by decide +kernel
theorem dX6_resultOf_65 : decode cX6_resultOf 65 = .ok (.lload_n 2, 1) := by decide +kernel
theorem dX6_resultOf_66 : decode cX6_resultOf 66 = .ok (.iload 4, 2) := by decide +kernel
theorem dX6_resultOf_68 : decode cX6_resultOf 68 = .ok (.i2l, 1) := by decide +kernel
theorem dX6_resultOf_69 : decode cX6_resultOf 69 = .ok (.ldiv, 1) := by decide +kernel
theorem dX6_resultOf_70 : decode cX6_resultOf 70 = .ok (.lreturn, 1) := by decide +kernel
theorem dX6_resultOf_71 : decode cX6_resultOf 71 = .ok (.iload 4, 2) := by decide +kernel
theorem dX6_resultOf_73 : decode cX6_resultOf 73 = .ok (.ifCond .ne 7, 3) := by decide +kernel
theorem dX6_resultOf_76 : decode cX6_resultOf 76 = .ok (.lconst 0, 1) := by decide +kernel
theorem dX6_resultOf_77 : decode cX6_resultOf 77 = .ok (.goto 8, 3) := by decide +kernel
theorem dX6_resultOf_80 : decode cX6_resultOf 80 = .ok (.lload_n 2, 1) := by decide +kernel
theorem dX6_resultOf_81 : decode cX6_resultOf 81 = .ok (.iload 4, 2) := by decide +kernel
theorem dX6_resultOf_83 : decode cX6_resultOf 83 = .ok (.i2l, 1) := by decide +kernel
theorem dX6_resultOf_84 : decode cX6_resultOf 84 = .ok (.lrem, 1) := by decide +kernel
theorem dX6_resultOf_85 : decode cX6_resultOf 85 = .ok (.lreturn, 1) := by decide +kernel
theorem dX6_resultOf_86 : decode cX6_resultOf 86 = .ok (.aload_n 0, 1) := by decide +kernel
theorem dX6_resultOf_87 : decode cX6_resultOf 87 = .ok (.lload_n 2, 1) := by decide +kernel
theorem dX6_resultOf_88 : decode cX6_resultOf 88 = .ok (.invokevirtual 15, 3) := by decide +kernel
theorem dX6_resultOf_91 : decode cX6_resultOf 91 = .ok (.ifCond .eq 14, 3) := by decide +kernel
theorem dX6_resultOf_94 : decode cX6_resultOf 94 = .ok (.aload_n 0, 1) := by decide +kernel
theorem dX6_resultOf_95 : decode cX6_resultOf 95 = .ok (.getfield 9, 3) := by decide +kernel
theorem dX6_resultOf_98 : decode cX6_resultOf 98 = .ok (.lload_n 2, 1) := by decide +kernel
theorem dX6_resultOf_99 : decode cX6_resultOf 99 = .ok (.l2i, 1) := by decide +kernel
theorem dX6_resultOf_100 : decode cX6_resultOf 100 = .ok (.iaload, 1) := by decide +kernel
theorem dX6_resultOf_101 : decode cX6_resultOf 101 = .ok (.i2l, 1) := by decide +kernel
theorem dX6_resultOf_102 : decode cX6_resultOf 102 = .ok (.goto 4, 3) := by decide +kernel
theorem dX6_resultOf_105 : decode cX6_resultOf 105 = .ok (.lconst 0, 1) := by decide +kernel
theorem dX6_resultOf_106 : decode cX6_resultOf 106 = .ok (.lreturn, 1) := by decide +kernel
theorem dX6_resultOf_107 : decode cX6_resultOf 107 = .ok (.iload 4, 2) := by decide +kernel
theorem dX6_resultOf_109 : decode cX6_resultOf 109 = .ok (.i2l, 1) := by decide +kernel
theorem dX6_resultOf_110 : decode cX6_resultOf 110 = .ok (.lload_n 2, 1) := by decide +kernel
theorem dX6_resultOf_111 : decode cX6_resultOf 111 = .ok (.lsub, 1) := by decide +kernel
theorem dX6_resultOf_112 : decode cX6_resultOf 112 = .ok (.lreturn, 1) := by decide +kernel
theorem dX6_resultOf_113 : decode cX6_resultOf 113 = .ok (.lload_n 2, 1) := by decide +kernel
theorem dX6_resultOf_114 : decode cX6_resultOf 114 = .ok (.l2i, 1) := by decide +kernel
theorem dX6_resultOf_115 : decode cX6_resultOf 115 = .ok (.i2b, 1) := by decide +kernel
theorem dX6_resultOf_116 : decode cX6_resultOf 116 = .ok (.i2l, 1) := by decide +kernel
theorem dX6_resultOf_117 : decode cX6_resultOf 117 = .ok (.lreturn, 1) := by decide +kernel
theorem dX6_resultOf_118 : decode cX6_resultOf 118 = .ok (.lconst 0, 1) := by decide +kernel
theorem dX6_resultOf_119 : decode cX6_resultOf 119 = .ok (.lreturn, 1) := by decide +kernel
theorem dX6_hasItem_0 : decode cX6_hasItem 0 = .ok (.lload_n 1, 1) := by decide +kernel
theorem dX6_hasItem_1 : decode cX6_hasItem 1 = .ok (.lconst 0, 1) := by decide +kernel
theorem dX6_hasItem_2 : decode cX6_hasItem 2 = .ok (.lcmp, 1) := by decide +kernel
theorem dX6_hasItem_3 : decode cX6_hasItem 3 = .ok (.ifCond .lt 18, 3) := by decide +kernel
theorem dX6_hasItem_6 : decode cX6_hasItem 6 = .ok (.lload_n 1, 1) := by decide +kernel
theorem dX6_hasItem_7 : decode cX6_hasItem 7 = .ok (.aload_n 0, 1) := by decide +kernel
theorem dX6_hasItem_8 : decode cX6_hasItem 8 = .ok (.getfield 9, 3) := by decide +kernel
theorem dX6_hasItem_11 : decode cX6_hasItem 11 = .ok (.arraylength, 1) := by decide +kernel
theorem dX6_hasItem_12 : decode cX6_hasItem 12 = .ok (.i2l, 1) := by decide +kernel
theorem dX6_hasItem_13 : decode cX6_hasItem 13 = .ok (.lcmp, 1) := by decide +kernel
theorem dX6_hasItem_14 : decode cX6_hasItem 14 = .ok (.ifCond .ge 7, 3) := by decide +kernel
theorem dX6_hasItem_17 : decode cX6_hasItem 17 = .ok (.iconst 1, 1) := by decide +kernel
theorem dX6_hasItem_18 : decode cX6_hasItem 18 = .ok (.goto 4, 3) := by decide +kernel
theorem dX6_hasItem_21 : decode cX6_hasItem 21 = .ok (.iconst 0, 1) := by decide +kernel
theorem dX6_hasItem_22 : decode cX6_hasItem 22 = .ok (.ireturn, 1) := by decide +kernel
theorem dX7_init_0 : decode cX7_init 0 = .ok (.aload_n 0, 1) := by decide +kernel
theorem dX7_init_1 : decode cX7_init 1 = .ok (.invokespecial 1, 3) := by decide +kernel
theorem dX7_init_4 : decode cX7_init 4 = .ok (.aload_n 0, 1) := by decide +kernel
theorem dX7_init_5 : decode cX7_init 5 = .ok (.new 7, 3) := by decide +kernel
theorem dX7_init_8 : decode cX7_init 8 = .ok (.dup, 1) := by decide +kernel
theorem dX7_init_9 : decode cX7_init 9 = .ok (.invokespecial 9, 3) := by decide +kernel
theorem dX7_init_12 : decode cX7_init 12 = .ok (.putfield 10, 3) := by decide +kernel
theorem dX7_init_15 : decode cX7_init 15 = .ok (.aload_n 0, 1) := by decide +kernel
theorem dX7_init_16 : decode cX7_init 16 = .ok (.new 16, 3) := by decide +kernel
theorem dX7_init_19 : decode cX7_init 19 = .ok (.dup, 1) := by decide +kernel
theorem dX7_init_20 : decode cX7_init 20 = .ok (.invokespecial 18, 3) := by decide +kernel
theorem dX7_init_23 : decode cX7_init 23 = .ok (.putfield 19, 3) := by decide +kernel
theorem dX7_init_26 : decode cX7_init 26 = .ok (.aload_n 0, 1) := by decide +kernel
theorem dX7_init_27 : decode cX7_init 27 = .ok (.bipush 12, 2) := by decide +kernel
theorem dX7_init_29 : decode cX7_init 29 = .ok (.anewarray 23, 3) := by decide +kernel
theorem dX7_init_32 : decode cX7_init 32 = .ok (.putfield 25, 3) := by decide +kernel
theorem dX7_init_35 : decode cX7_init 35 = .ok (.aload_n 0, 1) := by decide +kernel
theorem dX7_init_36 : decode cX7_init 36 = .ok (.new 29, 3) := by decide +kernel
theorem dX7_init_39 : decode cX7_init 39 = .ok (.dup, 1) := by decide +kernel
theorem dX7_init_40 : decode cX7_init 40 = .ok (.invokespecial 31, 3) := by decide +kernel
theorem dX7_init_43 : decode cX7_init 43 = .ok (.putfield 32, 3) := by decide +kernel
theorem dX7_init_46 : decode cX7_init 46 = .ok (.aload_n 0, 1) := by decide +kernel
theorem dX7_init_47 : decode cX7_init 47 = .ok (.new 36, 3) := by decide +kernel
theorem dX7_init_50 : decode cX7_init 50 = .ok (.dup, 1) := by decide +kernel
theorem dX7_init_51 : decode cX7_init 51 = .ok (.invokespecial 38, 3) := by decide +kernel
theorem dX7_init_54 : decode cX7_init 54 = .ok (.putfield 39, 3) := by decide +kernel
theorem dX7_init_57 : decode cX7_init 57 = .ok (.aload_n 0, 1) := by decide +kernel
theorem dX7_init_58 : decode cX7_init 58 = .ok (.iconst 0, 1) := by decide +kernel
theorem dX7_init_59 : decode cX7_init 59 = .ok (.putfield 43, 3) := by decide +kernel
theorem dX7_init_62 : decode cX7_init 62 = .ok (.aload_n 0, 1) := by decide +kernel
theorem dX7_init_63 : decode cX7_init 63 = .ok (.iconst 0, 1) := by decide +kernel
theorem dX7_init_64 : decode cX7_init 64 = .ok (.putfield 47, 3) := by decide +kernel
theorem dX7_init_67 : decode cX7_init 67 = .ok (.aload_n 0, 1) := by decide +kernel
theorem dX7_init_68 : decode cX7_init 68 = .ok (.iconst 0, 1) := by decide +kernel
theorem dX7_init_69 : decode cX7_init 69 = .ok (.putfield 50, 3) := by decide +kernel
theorem dX7_init_72 : decode cX7_init 72 = .ok (.iconst 0, 1) := by decide +kernel
theorem dX7_init_73 : decode cX7_init 73 = .ok (.istore_n 1, 1) := by decide +kernel
theorem dX7_init_74 : decode cX7_init 74 = .ok (.iload_n 1, 1) := by decide +kernel
theorem dX7_init_75 : decode cX7_init 75 = .ok (.aload_n 0, 1) := by decide +kernel
theorem dX7_init_76 : decode cX7_init 76 = .ok (.getfield 25, 3) := by decide +kernel
theorem dX7_init_79 : decode cX7_init 79 = .ok (.arraylength, 1) := by decide +kernel
theorem dX7_init_80 : decode cX7_init 80 = .ok (.if_icmp .ge 22, 3) := by decide +kernel
theorem dX7_init_83 : decode cX7_init 83 = .ok (.aload_n 0, 1) := by decide +kernel
theorem dX7_init_84 : decode cX7_init 84 = .ok (.getfield 25, 3) := by decide +kernel
theorem dX7_init_87 : decode cX7_init 87 = .ok (.iload_n 1, 1) := by decide +kernel
theorem dX7_init_88 : decode cX7_init 88 = .ok (.new 23, 3) := by decide +kernel
theorem dX7_init_91 : decode cX7_init 91 = .ok (.dup, 1) := by decide +kernel
theorem dX7_init_92 : decode cX7_init 92 = .ok (.invokespecial 54, 3) := by decide +kernel
theorem dX7_init_95 : decode cX7_init 95 = .ok (.aastore, 1) := by decide +kernel
theorem dX7_init_96 : decode cX7_init 96 = .ok (.iinc 1 1, 3) := by decide +kernel
theorem dX7_init_99 : decode cX7_init 99 = .ok (.goto (-25), 3) := by decide +kernel
theorem dX7_init_102 : decode cX7_init 102 = .ok (.return_, 1) := by decide +kernel
theorem dX7_row_0 : decode cX7_row 0 = .ok (.iload_n 1, 1) := by decide +kernel
theorem dX7_row_1 : decode cX7_row 1 = .ok (.iconst 0, 1) := by decide +kernel
theorem dX7_row_2 : decode cX7_row 2 = .ok (.iconst 2, 1) := by decide +kernel
theorem dX7_row_3 : decode cX7_row 3 = .ok (.invokestatic 55, 3) := by decide +kernel
theorem dX7_row_6 : decode cX7_row 6 = .ok (.ifCond .eq 35, 3) := by decide +kernel
theorem dX7_row_9 : decode cX7_row 9 = .ok (.iload_n 2, 1) := by decide +kernel
theorem dX7_row_10 : decode cX7_row 10 = .ok (.iconst 0, 1) := by decide +kernel
theorem dX7_row_11 : decode cX7_row 11 = .ok (.sipush 999, 3) := by decide +kernel
theorem dX7_row_14 : decode cX7_row 14 = .ok (.invokestatic 55, 3) := by decide +kernel
theorem dX7_row_17 : decode cX7_row 17 = .ok (.ifCond .eq 24, 3) := by decide +kernel
theorem dX7_row_20 : decode cX7_row 20 = .ok (.iload_n 3, 1) := by decide +kernel
theorem dX7_row_21 : decode cX7_row 21 = .ok (.iconst 0, 1) := by decide +kernel
theorem dX7_row_22 : decode cX7_row 22 = .ok (.iconst 5, 1) := by decide +kernel
theorem dX7_row_23 : decode cX7_row 23 = .ok (.invokestatic 55, 3) := by decide +kernel
theorem dX7_row_26 : decode cX7_row 26 = .ok (.ifCond .eq 15, 3) := by decide +kernel
theorem dX7_row_29 : decode cX7_row 29 = .ok (.iload 4, 2) := by decide +kernel
theorem dX7_row_31 : decode cX7_row 31 = .ok (.ldc 59, 2) := by decide +kernel
theorem dX7_row_33 : decode cX7_row 33 = .ok (.ldc 60, 2) := by decide +kernel
theorem dX7_row_35 : decode cX7_row 35 = .ok (.invokestatic 55, 3) := by decide +kernel
theorem dX7_row_38 : decode cX7_row 38 = .ok (.ifCond .ne 5, 3) := by decide +kernel
theorem dX7_row_41 : decode cX7_row 41 = .ok (.iconst (-1), 1) := by decide +kernel
theorem dX7_row_42 : decode cX7_row 42 = .ok (.ireturn, 1) := by decide +kernel
theorem dX7_row_43 : decode cX7_row 43 = .ok (.aload_n 0, 1) := by decide +kernel
theorem dX7_row_44 : decode cX7_row 44 = .ok (.getfield 10, 3) := by decide +kernel
theorem dX7_row_47 : decode cX7_row 47 = .ok (.iload_n 1, 1) := by decide +kernel
theorem dX7_row_48 : decode cX7_row 48 = .ok (.iload_n 2, 1) := by decide +kernel
theorem dX7_row_49 : decode cX7_row 49 = .ok (.iload_n 3, 1) := by decide +kernel
theorem dX7_row_50 : decode cX7_row 50 = .ok (.iload 4, 2) := by decide +kernel
theorem dX7_row_52 : decode cX7_row 52 = .ok (.iload 5, 2) := by decide +kernel
theorem dX7_row_54 : decode cX7_row 54 = .ok (.invokevirtual 61, 3) := by decide +kernel
theorem dX7_row_57 : decode cX7_row 57 = .ok (.ifCond .eq 15, 3) := by decide +kernel
theorem dX7_row_60 : decode cX7_row 60 = .ok (.aload_n 0, 1) := by decide +kernel
theorem dX7_row_61 : decode cX7_row 61 = .ok (.getfield 10, 3) := by decide +kernel
theorem dX7_row_64 : decode cX7_row 64 = .ok (.invokevirtual 65, 3) := by decide +kernel
theorem dX7_row_67 : decode cX7_row 67 = .ok (.iconst 1, 1) := by decide +kernel
theorem dX7_row_68 : decode cX7_row 68 = .ok (.isub, 1) := by decide +kernel
theorem dX7_row_69 : decode cX7_row 69 = .ok (.goto 5, 3) := by decide +kernel
theorem dX7_row_72 : decode cX7_row 72 = .ok (.bipush (-2), 2) := by decide +kernel
theorem dX7_row_74 : decode cX7_row 74 = .ok (.ireturn, 1) := by decide +kernel
theorem dX7_late_0 : decode cX7_late 0 = .ok (.iload_n 1, 1) := by decide +kernel
theorem dX7_late_1 : decode cX7_late 1 = .ok (.iconst 0, 1) := by decide +kernel
theorem dX7_late_2 : decode cX7_late 2 = .ok (.aload_n 0, 1) := by decide +kernel
theorem dX7_late_3 : decode cX7_late 3 = .ok (.getfield 10, 3) := by decide +kernel
theorem dX7_late_6 : decode cX7_late 6 = .ok (.invokevirtual 65, 3) := by decide +kernel
theorem dX7_late_9 : decode cX7_late 9 = .ok (.iconst 1, 1) := by decide +kernel
theorem dX7_late_10 : decode cX7_late 10 = .ok (.isub, 1) := by decide +kernel
theorem dX7_late_11 : decode cX7_late 11 = .ok (.invokestatic 55, 3) := by decide +kernel
theorem dX7_late_14 : decode cX7_late 14 = .ok (.ifCond .ne 5, 3) := by decide +kernel
theorem dX7_late_17 : decode cX7_late 17 = .ok (.iconst (-1), 1) := by decide +kernel
theorem dX7_late_18 : decode cX7_late 18 = .ok (.ireturn, 1) := by decide +kernel
theorem dX7_late_19 : decode cX7_late 19 = .ok (.aload_n 0, 1) := by decide +kernel
theorem dX7_late_20 : decode cX7_late 20 = .ok (.getfield 10, 3) := by decide +kernel
theorem dX7_late_23 : decode cX7_late 23 = .ok (.iload_n 1, 1) := by decide +kernel
theorem dX7_late_24 : decode cX7_late 24 = .ok (.iload_n 2, 1) := by decide +kernel
theorem dX7_late_25 : decode cX7_late 25 = .ok (.invokevirtual 69, 3) := by decide +kernel
theorem dX7_late_28 : decode cX7_late 28 = .ok (.ifCond .eq 7, 3) := by decide +kernel
theorem dX7_late_31 : decode cX7_late 31 = .ok (.iconst 1, 1) := by decide +kernel
theorem dX7_late_32 : decode cX7_late 32 = .ok (.goto 4, 3) := by decide +kernel
theorem dX7_late_35 : decode cX7_late 35 = .ok (.iconst 0, 1) := by decide +kernel
theorem dX7_late_36 : decode cX7_late 36 = .ok (.ireturn, 1) := by decide +kernel
theorem dX7_item_0 : decode cX7_item 0 = .ok (.iload_n 1, 1) := by decide +kernel
theorem dX7_item_1 : decode cX7_item 1 = .ok (.iconst 0, 1) := by decide +kernel
theorem dX7_item_2 : decode cX7_item 2 = .ok (.bipush 7, 2) := by decide +kernel
theorem dX7_item_4 : decode cX7_item 4 = .ok (.invokestatic 55, 3) := by decide +kernel
theorem dX7_item_7 : decode cX7_item 7 = .ok (.ifCond .eq 15, 3) := by decide +kernel
theorem dX7_item_10 : decode cX7_item 10 = .ok (.aload_n 0, 1) := by decide +kernel
theorem dX7_item_11 : decode cX7_item 11 = .ok (.getfield 19, 3) := by decide +kernel
theorem dX7_item_14 : decode cX7_item 14 = .ok (.iload_n 1, 1) := by decide +kernel
theorem dX7_item_15 : decode cX7_item 15 = .ok (.iload_n 2, 1) := by decide +kernel
theorem dX7_item_16 : decode cX7_item 16 = .ok (.invokevirtual 73, 3) := by decide +kernel
theorem dX7_item_19 : decode cX7_item 19 = .ok (.goto 4, 3) := by decide +kernel
theorem dX7_item_22 : decode cX7_item 22 = .ok (.iconst (-1), 1) := by decide +kernel
theorem dX7_item_23 : decode cX7_item 23 = .ok (.ireturn, 1) := by decide +kernel
theorem dX7_wipe_0 : decode cX7_wipe 0 = .ok (.aload_n 0, 1) := by decide +kernel
theorem dX7_wipe_1 : decode cX7_wipe 1 = .ok (.getfield 10, 3) := by decide +kernel
theorem dX7_wipe_4 : decode cX7_wipe 4 = .ok (.invokevirtual 65, 3) := by decide +kernel
theorem dX7_wipe_7 : decode cX7_wipe 7 = .ok (.istore_n 1, 1) := by decide +kernel
theorem dX7_wipe_8 : decode cX7_wipe 8 = .ok (.aload_n 0, 1) := by decide +kernel
theorem dX7_wipe_9 : decode cX7_wipe 9 = .ok (.getfield 10, 3) := by decide +kernel
theorem dX7_wipe_12 : decode cX7_wipe 12 = .ok (.invokevirtual 77, 3) := by decide +kernel
theorem dX7_wipe_15 : decode cX7_wipe 15 = .ok (.iload_n 1, 1) := by decide +kernel
theorem dX7_wipe_16 : decode cX7_wipe 16 = .ok (.ireturn, 1) := by decide +kernel
theorem dX7_read_0 : decode cX7_read 0 = .ok (.iload_n 1, 1) := by decide +kernel
theorem dX7_read_1 : decode cX7_read 1 = .ok (.iconst 0, 1) := by decide +kernel
theorem dX7_read_2 : decode cX7_read 2 = .ok (.iconst 2, 1) := by decide +kernel
theorem dX7_read_3 : decode cX7_read 3 = .ok (.invokestatic 55, 3) := by decide +kernel
theorem dX7_read_6 : decode cX7_read 6 = .ok (.ifCond .eq 15, 3) := by decide +kernel
theorem dX7_read_9 : decode cX7_read 9 = .ok (.aload_n 0, 1) := by decide +kernel
theorem dX7_read_10 : decode cX7_read 10 = .ok (.iconst 0, 1) := by decide +kernel
theorem dX7_read_11 : decode cX7_read 11 = .ok (.iconst (-1), 1) := by decide +kernel
theorem dX7_read_12 : decode cX7_read 12 = .ok (.iconst (-1), 1) := by decide +kernel
theorem dX7_read_13 : decode cX7_read 13 = .ok (.iload_n 1, 1) := by decide +kernel
theorem dX7_read_14 : decode cX7_read 14 = .ok (.iconst 0, 1) := by decide +kernel
theorem dX7_read_15 : decode cX7_read 15 = .ok (.invokevirtual 80, 3) := by decide +kernel
theorem dX7_read_18 : decode cX7_read 18 = .ok (.goto 4, 3) := by decide +kernel
theorem dX7_read_21 : decode cX7_read 21 = .ok (.iconst (-1), 1) := by decide +kernel
theorem dX7_read_22 : decode cX7_read 22 = .ok (.ireturn, 1) := by decide +kernel
theorem dX7_each_0 : decode cX7_each 0 = .ok (.iload_n 1, 1) := by decide +kernel
theorem dX7_each_1 : decode cX7_each 1 = .ok (.iconst 0, 1) := by decide +kernel
theorem dX7_each_2 : decode cX7_each 2 = .ok (.iconst 2, 1) := by decide +kernel
theorem dX7_each_3 : decode cX7_each 3 = .ok (.invokestatic 55, 3) := by decide +kernel
theorem dX7_each_6 : decode cX7_each 6 = .ok (.ifCond .eq 21, 3) := by decide +kernel
theorem dX7_each_9 : decode cX7_each 9 = .ok (.aload_n 0, 1) := by decide +kernel
theorem dX7_each_10 : decode cX7_each 10 = .ok (.iload_n 2, 1) := by decide +kernel
theorem dX7_each_11 : decode cX7_each 11 = .ok (.invokevirtual 84, 3) := by decide +kernel
theorem dX7_each_14 : decode cX7_each 14 = .ok (.ifCond .eq 13, 3) := by decide +kernel
theorem dX7_each_17 : decode cX7_each 17 = .ok (.iload_n 3, 1) := by decide +kernel
theorem dX7_each_18 : decode cX7_each 18 = .ok (.iconst 0, 1) := by decide +kernel
theorem dX7_each_19 : decode cX7_each 19 = .ok (.bipush 6, 2) := by decide +kernel
theorem dX7_each_21 : decode cX7_each 21 = .ok (.invokestatic 55, 3) := by decide +kernel
theorem dX7_each_24 : decode cX7_each 24 = .ok (.ifCond .ne 5, 3) := by decide +kernel
theorem dX7_each_27 : decode cX7_each 27 = .ok (.iconst (-1), 1) := by decide +kernel
theorem dX7_each_28 : decode cX7_each 28 = .ok (.ireturn, 1) := by decide +kernel
theorem dX7_each_29 : decode cX7_each 29 = .ok (.aload_n 0, 1) := by decide +kernel
theorem dX7_each_30 : decode cX7_each 30 = .ok (.iconst 1, 1) := by decide +kernel
theorem dX7_each_31 : decode cX7_each 31 = .ok (.iload_n 1, 1) := by decide +kernel
theorem dX7_each_32 : decode cX7_each 32 = .ok (.iadd, 1) := by decide +kernel
theorem dX7_each_33 : decode cX7_each 33 = .ok (.iload_n 2, 1) := by decide +kernel
theorem dX7_each_34 : decode cX7_each 34 = .ok (.iload_n 2, 1) := by decide +kernel
theorem dX7_each_35 : decode cX7_each 35 = .ok (.iload_n 3, 1) := by decide +kernel
theorem dX7_each_36 : decode cX7_each 36 = .ok (.iload 4, 2) := by decide +kernel
theorem dX7_each_38 : decode cX7_each 38 = .ok (.invokevirtual 80, 3) := by decide +kernel
theorem dX7_each_41 : decode cX7_each 41 = .ok (.ireturn, 1) := by decide +kernel
theorem dX7_spans_0 : decode cX7_spans 0 = .ok (.aload_n 0, 1) := by decide +kernel
theorem dX7_spans_1 : decode cX7_spans 1 = .ok (.iload_n 1, 1) := by decide +kernel
theorem dX7_spans_2 : decode cX7_spans 2 = .ok (.invokevirtual 84, 3) := by decide +kernel
theorem dX7_spans_5 : decode cX7_spans 5 = .ok (.ifCond .eq 23, 3) := by decide +kernel
theorem dX7_spans_8 : decode cX7_spans 8 = .ok (.iload_n 2, 1) := by decide +kernel
theorem dX7_spans_9 : decode cX7_spans 9 = .ok (.iconst 1, 1) := by decide +kernel
theorem dX7_spans_10 : decode cX7_spans 10 = .ok (.sipush 1000, 3) := by decide +kernel
theorem dX7_spans_13 : decode cX7_spans 13 = .ok (.invokestatic 55, 3) := by decide +kernel
theorem dX7_spans_16 : decode cX7_spans 16 = .ok (.ifCond .eq 12, 3) := by decide +kernel
theorem dX7_spans_19 : decode cX7_spans 19 = .ok (.iload_n 3, 1) := by decide +kernel
theorem dX7_spans_20 : decode cX7_spans 20 = .ok (.iconst 0, 1) := by decide +kernel
theorem dX7_spans_21 : decode cX7_spans 21 = .ok (.iconst 4, 1) := by decide +kernel
theorem dX7_spans_22 : decode cX7_spans 22 = .ok (.invokestatic 55, 3) := by decide +kernel
theorem dX7_spans_25 : decode cX7_spans 25 = .ok (.ifCond .ne 5, 3) := by decide +kernel
theorem dX7_spans_28 : decode cX7_spans 28 = .ok (.iconst (-1), 1) := by decide +kernel
theorem dX7_spans_29 : decode cX7_spans 29 = .ok (.ireturn, 1) := by decide +kernel
theorem dX7_spans_30 : decode cX7_spans 30 = .ok (.aload_n 0, 1) := by decide +kernel
theorem dX7_spans_31 : decode cX7_spans 31 = .ok (.iconst 4, 1) := by decide +kernel
theorem dX7_spans_32 : decode cX7_spans 32 = .ok (.iload_n 1, 1) := by decide +kernel
theorem dX7_spans_33 : decode cX7_spans 33 = .ok (.iload_n 1, 1) := by decide +kernel
theorem dX7_spans_34 : decode cX7_spans 34 = .ok (.iload_n 2, 1) := by decide +kernel
theorem dX7_spans_35 : decode cX7_spans 35 = .ok (.iload_n 3, 1) := by decide +kernel
theorem dX7_spans_36 : decode cX7_spans 36 = .ok (.invokevirtual 80, 3) := by decide +kernel
theorem dX7_spans_39 : decode cX7_spans 39 = .ok (.ireturn, 1) := by decide +kernel
theorem dX7_join_0 : decode cX7_join 0 = .ok (.aload_n 0, 1) := by decide +kernel
theorem dX7_join_1 : decode cX7_join 1 = .ok (.iload_n 1, 1) := by decide +kernel
theorem dX7_join_2 : decode cX7_join 2 = .ok (.invokevirtual 84, 3) := by decide +kernel
theorem dX7_join_5 : decode cX7_join 5 = .ok (.ifCond .eq 22, 3) := by decide +kernel
theorem dX7_join_8 : decode cX7_join 8 = .ok (.aload_n 0, 1) := by decide +kernel
theorem dX7_join_9 : decode cX7_join 9 = .ok (.iload_n 2, 1) := by decide +kernel
theorem dX7_join_10 : decode cX7_join 10 = .ok (.invokevirtual 84, 3) := by decide +kernel
theorem dX7_join_13 : decode cX7_join 13 = .ok (.ifCond .eq 14, 3) := by decide +kernel
theorem dX7_join_16 : decode cX7_join 16 = .ok (.iload_n 3, 1) := by decide +kernel
