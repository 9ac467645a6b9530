/-! decode rows (claim/NAMES.whole.lean.txt) -/
theorem dX0_init_0 : decode cX0_init 0 = .ok (.aload_n 0, 1) := by decide +kernel
theorem dX0_init_1 : decode cX0_init 1 = .ok (.invokespecial 3, 3) := by decide +kernel
theorem dX0_init_4 : decode cX0_init 4 = .ok (.aload_n 0, 1) := by decide +kernel
theorem dX0_init_5 : decode cX0_init 5 = .ok (.bipush 60, 2) := by decide +kernel
theorem dX0_init_7 : decode cX0_init 7 = .ok (.newarray .int, 2) := by decide +kernel
theorem dX0_init_9 : decode cX0_init 9 = .ok (.putfield 9, 3) := by decide +kernel
theorem dX0_init_12 : decode cX0_init 12 = .ok (.aload_n 0, 1) := by decide +kernel
theorem dX0_init_13 : decode cX0_init 13 = .ok (.bipush 60, 2) := by decide +kernel
theorem dX0_init_15 : decode cX0_init 15 = .ok (.newarray .int, 2) := by decide +kernel
theorem dX0_init_17 : decode cX0_init 17 = .ok (.putfield 15, 3) := by decide +kernel
theorem dX0_init_20 : decode cX0_init 20 = .ok (.aload_n 0, 1) := by decide +kernel
theorem dX0_init_21 : decode cX0_init 21 = .ok (.bipush 60, 2) := by decide +kernel
theorem dX0_init_23 : decode cX0_init 23 = .ok (.newarray .int, 2) := by decide +kernel
theorem dX0_init_25 : decode cX0_init 25 = .ok (.putfield 18, 3) := by decide +kernel
theorem dX0_init_28 : decode cX0_init 28 = .ok (.aload_n 0, 1) := by decide +kernel
theorem dX0_init_29 : decode cX0_init 29 = .ok (.bipush 60, 2) := by decide +kernel
theorem dX0_init_31 : decode cX0_init 31 = .ok (.newarray .int, 2) := by decide +kernel
theorem dX0_init_33 : decode cX0_init 33 = .ok (.putfield 21, 3) := by decide +kernel
theorem dX0_init_36 : decode cX0_init 36 = .ok (.aload_n 0, 1) := by decide +kernel
theorem dX0_init_37 : decode cX0_init 37 = .ok (.bipush 60, 2) := by decide +kernel
theorem dX0_init_39 : decode cX0_init 39 = .ok (.newarray .boolean, 2) := by decide +kernel
theorem dX0_init_41 : decode cX0_init 41 = .ok (.putfield 24, 3) := by decide +kernel
theorem dX0_init_44 : decode cX0_init 44 = .ok (.aload_n 0, 1) := by decide +kernel
theorem dX0_init_45 : decode cX0_init 45 = .ok (.iconst 0, 1) := by decide +kernel
theorem dX0_init_46 : decode cX0_init 46 = .ok (.putfield 28, 3) := by decide +kernel
theorem dX0_init_49 : decode cX0_init 49 = .ok (.return_, 1) := by decide +kernel
theorem dX0_size_0 : decode cX0_size 0 = .ok (.aload_n 0, 1) := by decide +kernel
theorem dX0_size_1 : decode cX0_size 1 = .ok (.getfield 28, 3) := by decide +kernel
theorem dX0_size_4 : decode cX0_size 4 = .ok (.ireturn, 1) := by decide +kernel
theorem dX0_empty_0 : decode cX0_empty 0 = .ok (.aload_n 0, 1) := by decide +kernel
theorem dX0_empty_1 : decode cX0_empty 1 = .ok (.iconst 0, 1) := by decide +kernel
theorem dX0_empty_2 : decode cX0_empty 2 = .ok (.putfield 28, 3) := by decide +kernel
theorem dX0_empty_5 : decode cX0_empty 5 = .ok (.return_, 1) := by decide +kernel
theorem dX0_take_0 : decode cX0_take 0 = .ok (.aload_n 0, 1) := by decide +kernel
theorem dX0_take_1 : decode cX0_take 1 = .ok (.getfield 28, 3) := by decide +kernel
theorem dX0_take_4 : decode cX0_take 4 = .ok (.bipush 60, 2) := by decide +kernel
theorem dX0_take_6 : decode cX0_take 6 = .ok (.if_icmp .lt 5, 3) := by decide +kernel
theorem dX0_take_9 : decode cX0_take 9 = .ok (.iconst 0, 1) := by decide +kernel
theorem dX0_take_10 : decode cX0_take 10 = .ok (.ireturn, 1) := by decide +kernel
theorem dX0_take_11 : decode cX0_take 11 = .ok (.aload_n 0, 1) := by decide +kernel
theorem dX0_take_12 : decode cX0_take 12 = .ok (.getfield 9, 3) := by decide +kernel
theorem dX0_take_15 : decode cX0_take 15 = .ok (.aload_n 0, 1) := by decide +kernel
theorem dX0_take_16 : decode cX0_take 16 = .ok (.getfield 28, 3) := by decide +kernel
theorem dX0_take_19 : decode cX0_take 19 = .ok (.iload_n 1, 1) := by decide +kernel
theorem dX0_take_20 : decode cX0_take 20 = .ok (.iastore, 1) := by decide +kernel
theorem dX0_take_21 : decode cX0_take 21 = .ok (.aload_n 0, 1) := by decide +kernel
theorem dX0_take_22 : decode cX0_take 22 = .ok (.getfield 15, 3) := by decide +kernel
theorem dX0_take_25 : decode cX0_take 25 = .ok (.aload_n 0, 1) := by decide +kernel
theorem dX0_take_26 : decode cX0_take 26 = .ok (.getfield 28, 3) := by decide +kernel
theorem dX0_take_29 : decode cX0_take 29 = .ok (.iload_n 2, 1) := by decide +kernel
theorem dX0_take_30 : decode cX0_take 30 = .ok (.iastore, 1) := by decide +kernel
theorem dX0_take_31 : decode cX0_take 31 = .ok (.aload_n 0, 1) := by decide +kernel
theorem dX0_take_32 : decode cX0_take 32 = .ok (.getfield 18, 3) := by decide +kernel
theorem dX0_take_35 : decode cX0_take 35 = .ok (.aload_n 0, 1) := by decide +kernel
theorem dX0_take_36 : decode cX0_take 36 = .ok (.getfield 28, 3) := by decide +kernel
theorem dX0_take_39 : decode cX0_take 39 = .ok (.iload_n 3, 1) := by decide +kernel
theorem dX0_take_40 : decode cX0_take 40 = .ok (.iastore, 1) := by decide +kernel
theorem dX0_take_41 : decode cX0_take 41 = .ok (.aload_n 0, 1) := by decide +kernel
theorem dX0_take_42 : decode cX0_take 42 = .ok (.getfield 21, 3) := by decide +kernel
theorem dX0_take_45 : decode cX0_take 45 = .ok (.aload_n 0, 1) := by decide +kernel
theorem dX0_take_46 : decode cX0_take 46 = .ok (.getfield 28, 3) := by decide +kernel
theorem dX0_take_49 : decode cX0_take 49 = .ok (.iload 4, 2) := by decide +kernel
theorem dX0_take_51 : decode cX0_take 51 = .ok (.iastore, 1) := by decide +kernel
theorem dX0_take_52 : decode cX0_take 52 = .ok (.aload_n 0, 1) := by decide +kernel
theorem dX0_take_53 : decode cX0_take 53 = .ok (.getfield 24, 3) := by decide +kernel
theorem dX0_take_56 : decode cX0_take 56 = .ok (.aload_n 0, 1) := by decide +kernel
theorem dX0_take_57 : decode cX0_take 57 = .ok (.getfield 28, 3) := by decide +kernel
theorem dX0_take_60 : decode cX0_take 60 = .ok (.iload 5, 2) := by decide +kernel
theorem dX0_take_62 : decode cX0_take 62 = .ok (.bastore, 1) := by decide +kernel
theorem dX0_take_63 : decode cX0_take 63 = .ok (.aload_n 0, 1) := by decide +kernel
theorem dX0_take_64 : decode cX0_take 64 = .ok (.dup, 1) := by decide +kernel
theorem dX0_take_65 : decode cX0_take 65 = .ok (.getfield 28, 3) := by decide +kernel
theorem dX0_take_68 : decode cX0_take 68 = .ok (.iconst 1, 1) := by decide +kernel
theorem dX0_take_69 : decode cX0_take 69 = .ok (.iadd, 1) := by decide +kernel
theorem dX0_take_70 : decode cX0_take 70 = .ok (.putfield 28, 3) := by decide +kernel
theorem dX0_take_73 : decode cX0_take 73 = .ok (.iconst 1, 1) := by decide +kernel
theorem dX0_take_74 : decode cX0_take 74 = .ok (.ireturn, 1) := by decide +kernel
theorem dX0_swapLate_0 : decode cX0_swapLate 0 = .ok (.iload_n 1, 1) := by decide +kernel
theorem dX0_swapLate_1 : decode cX0_swapLate 1 = .ok (.ifCond .lt 11, 3) := by decide +kernel
theorem dX0_swapLate_4 : decode cX0_swapLate 4 = .ok (.iload_n 1, 1) := by decide +kernel
theorem dX0_swapLate_5 : decode cX0_swapLate 5 = .ok (.aload_n 0, 1) := by decide +kernel
theorem dX0_swapLate_6 : decode cX0_swapLate 6 = .ok (.getfield 28, 3) := by decide +kernel
theorem dX0_swapLate_9 : decode cX0_swapLate 9 = .ok (.if_icmp .lt 5, 3) := by decide +kernel
theorem dX0_swapLate_12 : decode cX0_swapLate 12 = .ok (.iconst 0, 1) := by decide +kernel
theorem dX0_swapLate_13 : decode cX0_swapLate 13 = .ok (.ireturn, 1) := by decide +kernel
theorem dX0_swapLate_14 : decode cX0_swapLate 14 = .ok (.aload_n 0, 1) := by decide +kernel
theorem dX0_swapLate_15 : decode cX0_swapLate 15 = .ok (.getfield 24, 3) := by decide +kernel
theorem dX0_swapLate_18 : decode cX0_swapLate 18 = .ok (.iload_n 1, 1) := by decide +kernel
theorem dX0_swapLate_19 : decode cX0_swapLate 19 = .ok (.baload, 1) := by decide +kernel
theorem dX0_swapLate_20 : decode cX0_swapLate 20 = .ok (.istore_n 3, 1) := by decide +kernel
theorem dX0_swapLate_21 : decode cX0_swapLate 21 = .ok (.aload_n 0, 1) := by decide +kernel
theorem dX0_swapLate_22 : decode cX0_swapLate 22 = .ok (.getfield 24, 3) := by decide +kernel
theorem dX0_swapLate_25 : decode cX0_swapLate 25 = .ok (.iload_n 1, 1) := by decide +kernel
theorem dX0_swapLate_26 : decode cX0_swapLate 26 = .ok (.iload_n 2, 1) := by decide +kernel
theorem dX0_swapLate_27 : decode cX0_swapLate 27 = .ok (.bastore, 1) := by decide +kernel
theorem dX0_swapLate_28 : decode cX0_swapLate 28 = .ok (.iload_n 3, 1) := by decide +kernel
theorem dX0_swapLate_29 : decode cX0_swapLate 29 = .ok (.ireturn, 1) := by decide +kernel
theorem dX0_giveInTime_0 : decode cX0_giveInTime 0 = .ok (.iconst 0, 1) := by decide +kernel
theorem dX0_giveInTime_1 : decode cX0_giveInTime 1 = .ok (.istore_n 3, 1) := by decide +kernel
theorem dX0_giveInTime_2 : decode cX0_giveInTime 2 = .ok (.iload_n 3, 1) := by decide +kernel
theorem dX0_giveInTime_3 : decode cX0_giveInTime 3 = .ok (.aload_n 0, 1) := by decide +kernel
theorem dX0_giveInTime_4 : decode cX0_giveInTime 4 = .ok (.getfield 28, 3) := by decide +kernel
theorem dX0_giveInTime_7 : decode cX0_giveInTime 7 = .ok (.if_icmp .ge 56, 3) := by decide +kernel
theorem dX0_giveInTime_10 : decode cX0_giveInTime 10 = .ok (.aload_n 0, 1) := by decide +kernel
theorem dX0_giveInTime_11 : decode cX0_giveInTime 11 = .ok (.getfield 9, 3) := by decide +kernel
theorem dX0_giveInTime_14 : decode cX0_giveInTime 14 = .ok (.iload_n 3, 1) := by decide +kernel
theorem dX0_giveInTime_15 : decode cX0_giveInTime 15 = .ok (.iaload, 1) := by decide +kernel
theorem dX0_giveInTime_16 : decode cX0_giveInTime 16 = .ok (.iload_n 1, 1) := by decide +kernel
theorem dX0_giveInTime_17 : decode cX0_giveInTime 17 = .ok (.if_icmp .ne 40, 3) := by decide +kernel
theorem dX0_giveInTime_20 : decode cX0_giveInTime 20 = .ok (.aload_n 0, 1) := by decide +kernel
theorem dX0_giveInTime_21 : decode cX0_giveInTime 21 = .ok (.getfield 24, 3) := by decide +kernel
theorem dX0_giveInTime_24 : decode cX0_giveInTime 24 = .ok (.iload_n 3, 1) := by decide +kernel
theorem dX0_giveInTime_25 : decode cX0_giveInTime 25 = .ok (.baload, 1) := by decide +kernel
theorem dX0_giveInTime_26 : decode cX0_giveInTime 26 = .ok (.ifCond .ne 31, 3) := by decide +kernel
theorem dX0_giveInTime_29 : decode cX0_giveInTime 29 = .ok (.aload_n 2, 1) := by decide +kernel
theorem dX0_giveInTime_30 : decode cX0_giveInTime 30 = .ok (.aload_n 0, 1) := by decide +kernel
theorem dX0_giveInTime_31 : decode cX0_giveInTime 31 = .ok (.getfield 15, 3) := by decide +kernel
theorem dX0_giveInTime_34 : decode cX0_giveInTime 34 = .ok (.iload_n 3, 1) := by decide +kernel
theorem dX0_giveInTime_35 : decode cX0_giveInTime 35 = .ok (.iaload, 1) := by decide +kernel
theorem dX0_giveInTime_36 : decode cX0_giveInTime 36 = .ok (.aload_n 0, 1) := by decide +kernel
theorem dX0_giveInTime_37 : decode cX0_giveInTime 37 = .ok (.getfield 18, 3) := by decide +kernel
theorem dX0_giveInTime_40 : decode cX0_giveInTime 40 = .ok (.iload_n 3, 1) := by decide +kernel
theorem dX0_giveInTime_41 : decode cX0_giveInTime 41 = .ok (.iaload, 1) := by decide +kernel
theorem dX0_giveInTime_42 : decode cX0_giveInTime 42 = .ok (.aload_n 0, 1) := by decide +kernel
theorem dX0_giveInTime_43 : decode cX0_giveInTime 43 = .ok (.getfield 21, 3) := by decide +kernel
theorem dX0_giveInTime_46 : decode cX0_giveInTime 46 = .ok (.iload_n 3, 1) := by decide +kernel
theorem dX0_giveInTime_47 : decode cX0_giveInTime 47 = .ok (.iaload, 1) := by decide +kernel
theorem dX0_giveInTime_48 : decode cX0_giveInTime 48 = .ok (.i2l, 1) := by decide +kernel
theorem dX0_giveInTime_49 : decode cX0_giveInTime 49 = .ok (.invokevirtual 32, 3) := by decide +kernel
theorem dX0_giveInTime_52 : decode cX0_giveInTime 52 = .ok (.ifCond .ne 5, 3) := by decide +kernel
theorem dX0_giveInTime_55 : decode cX0_giveInTime 55 = .ok (.iconst 0, 1) := by decide +kernel
theorem dX0_giveInTime_56 : decode cX0_giveInTime 56 = .ok (.ireturn, 1) := by decide +kernel
theorem dX0_giveInTime_57 : decode cX0_giveInTime 57 = .ok (.iinc 3 1, 3) := by decide +kernel
theorem dX0_giveInTime_60 : decode cX0_giveInTime 60 = .ok (.goto (-58), 3) := by decide +kernel
theorem dX0_giveInTime_63 : decode cX0_giveInTime 63 = .ok (.iconst 1, 1) := by decide +kernel
theorem dX0_giveInTime_64 : decode cX0_giveInTime 64 = .ok (.ireturn, 1) := by decide +kernel
theorem dX1_init_0 : decode cX1_init 0 = .ok (.aload_n 0, 1) := by decide +kernel
theorem dX1_init_1 : decode cX1_init 1 = .ok (.invokespecial 3, 3) := by decide +kernel
theorem dX1_init_4 : decode cX1_init 4 = .ok (.aload_n 0, 1) := by decide +kernel
theorem dX1_init_5 : decode cX1_init 5 = .ok (.new 9, 3) := by decide +kernel
theorem dX1_init_8 : decode cX1_init 8 = .ok (.dup, 1) := by decide +kernel
theorem dX1_init_9 : decode cX1_init 9 = .ok (.sipush 200, 3) := by decide +kernel
theorem dX1_init_12 : decode cX1_init 12 = .ok (.invokespecial 11, 3) := by decide +kernel
theorem dX1_init_15 : decode cX1_init 15 = .ok (.putfield 14, 3) := by decide +kernel
theorem dX1_init_18 : decode cX1_init 18 = .ok (.aload_n 0, 1) := by decide +kernel
theorem dX1_init_19 : decode cX1_init 19 = .ok (.new 9, 3) := by decide +kernel
theorem dX1_init_22 : decode cX1_init 22 = .ok (.dup, 1) := by decide +kernel
theorem dX1_init_23 : decode cX1_init 23 = .ok (.bipush 40, 2) := by decide +kernel
theorem dX1_init_25 : decode cX1_init 25 = .ok (.invokespecial 11, 3) := by decide +kernel
theorem dX1_init_28 : decode cX1_init 28 = .ok (.putfield 20, 3) := by decide +kernel
theorem dX1_init_31 : decode cX1_init 31 = .ok (.aload_n 0, 1) := by decide +kernel
theorem dX1_init_32 : decode cX1_init 32 = .ok (.iconst 0, 1) := by decide +kernel
theorem dX1_init_33 : decode cX1_init 33 = .ok (.putfield 23, 3) := by decide +kernel
theorem dX1_init_36 : decode cX1_init 36 = .ok (.aload_n 0, 1) := by decide +kernel
theorem dX1_init_37 : decode cX1_init 37 = .ok (.iconst 0, 1) := by decide +kernel
theorem dX1_init_38 : decode cX1_init 38 = .ok (.putfield 27, 3) := by decide +kernel
theorem dX1_init_41 : decode cX1_init 41 = .ok (.aload_n 0, 1) := by decide +kernel
theorem dX1_init_42 : decode cX1_init 42 = .ok (.iconst 0, 1) := by decide +kernel
theorem dX1_init_43 : decode cX1_init 43 = .ok (.putfield 31, 3) := by decide +kernel
theorem dX1_init_46 : decode cX1_init 46 = .ok (.aload_n 0, 1) := by decide +kernel
theorem dX1_init_47 : decode cX1_init 47 = .ok (.iconst 0, 1) := by decide +kernel
theorem dX1_init_48 : decode cX1_init 48 = .ok (.putfield 34, 3) := by decide +kernel
theorem dX1_init_51 : decode cX1_init 51 = .ok (.return_, 1) := by decide +kernel
theorem dX1_forget_0 : decode cX1_forget 0 = .ok (.aload_n 0, 1) := by decide +kernel
theorem dX1_forget_1 : decode cX1_forget 1 = .ok (.iconst 0, 1) := by decide +kernel
theorem dX1_forget_2 : decode cX1_forget 2 = .ok (.putfield 23, 3) := by decide +kernel
theorem dX1_forget_5 : decode cX1_forget 5 = .ok (.return_, 1) := by decide +kernel
theorem dX1_hasDifference_0 : decode cX1_hasDifference 0 = .ok (.aload_n 0, 1) := by decide +kernel
theorem dX1_hasDifference_1 : decode cX1_hasDifference 1 = .ok (.getfield 23, 3) := by decide +kernel
theorem dX1_hasDifference_4 : decode cX1_hasDifference 4 = .ok (.ireturn, 1) := by decide +kernel
theorem dX1_partOfDifference_0 : decode cX1_partOfDifference 0 = .ok (.iload_n 1, 1) := by decide +kernel
theorem dX1_partOfDifference_1 : decode cX1_partOfDifference 1 = .ok (.ifCond .ne 8, 3) := by decide +kernel
theorem dX1_partOfDifference_4 : decode cX1_partOfDifference 4 = .ok (.aload_n 0, 1) := by decide +kernel
theorem dX1_partOfDifference_5 : decode cX1_partOfDifference 5 = .ok (.getfield 27, 3) := by decide +kernel
theorem dX1_partOfDifference_8 : decode cX1_partOfDifference 8 = .ok (.ireturn, 1) := by decide +kernel
theorem dX1_partOfDifference_9 : decode cX1_partOfDifference 9 = .ok (.iload_n 1, 1) := by decide +kernel
theorem dX1_partOfDifference_10 : decode cX1_partOfDifference 10 = .ok (.iconst 1, 1) := by decide +kernel
theorem dX1_partOfDifference_11 : decode cX1_partOfDifference 11 = .ok (.if_icmp .ne 10, 3) := by decide +kernel
theorem dX1_partOfDifference_14 : decode cX1_partOfDifference 14 = .ok (.aload_n 0, 1) := by decide +kernel
theorem dX1_partOfDifference_15 : decode cX1_partOfDifference 15 = .ok (.getfield 31, 3) := by decide +kernel
theorem dX1_partOfDifference_18 : decode cX1_partOfDifference 18 = .ok (.goto 7, 3) := by decide +kernel
theorem dX1_partOfDifference_21 : decode cX1_partOfDifference 21 = .ok (.aload_n 0, 1) := by decide +kernel
theorem dX1_partOfDifference_22 : decode cX1_partOfDifference 22 = .ok (.getfield 34, 3) := by decide +kernel
theorem dX1_partOfDifference_25 : decode cX1_partOfDifference 25 = .ok (.ireturn, 1) := by decide +kernel
theorem dX1_byOrder_0 : decode cX1_byOrder 0 = .ok (.aload_n 1, 1) := by decide +kernel
theorem dX1_byOrder_1 : decode cX1_byOrder 1 = .ok (.aload_n 2, 1) := by decide +kernel
theorem dX1_byOrder_2 : decode cX1_byOrder 2 = .ok (.invokevirtual 37, 3) := by decide +kernel
theorem dX1_byOrder_5 : decode cX1_byOrder 5 = .ok (.istore_n 3, 1) := by decide +kernel
theorem dX1_byOrder_6 : decode cX1_byOrder 6 = .ok (.iload_n 3, 1) := by decide +kernel
theorem dX1_byOrder_7 : decode cX1_byOrder 7 = .ok (.aload_n 1, 1) := by decide +kernel
theorem dX1_byOrder_8 : decode cX1_byOrder 8 = .ok (.invokevirtual 41, 3) := by decide +kernel
theorem dX1_byOrder_11 : decode cX1_byOrder 11 = .ok (.if_icmp .ge 7, 3) := by decide +kernel
theorem dX1_byOrder_14 : decode cX1_byOrder 14 = .ok (.iconst 1, 1) := by decide +kernel
theorem dX1_byOrder_15 : decode cX1_byOrder 15 = .ok (.goto 4, 3) := by decide +kernel
theorem dX1_byOrder_18 : decode cX1_byOrder 18 = .ok (.iconst 0, 1) := by decide +kernel
theorem dX1_byOrder_19 : decode cX1_byOrder 19 = .ok (.istore 4, 2) := by decide +kernel
theorem dX1_byOrder_21 : decode cX1_byOrder 21 = .ok (.iload_n 3, 1) := by decide +kernel
theorem dX1_byOrder_22 : decode cX1_byOrder 22 = .ok (.aload_n 2, 1) := by decide +kernel
theorem dX1_byOrder_23 : decode cX1_byOrder 23 = .ok (.invokevirtual 41, 3) := by decide +kernel
theorem dX1_byOrder_26 : decode cX1_byOrder 26 = .ok (.if_icmp .ge 7, 3) := by decide +kernel
theorem dX1_byOrder_29 : decode cX1_byOrder 29 = .ok (.iconst 1, 1) := by decide +kernel
theorem dX1_byOrder_30 : decode cX1_byOrder 30 = .ok (.goto 4, 3) := by decide +kernel
theorem dX1_byOrder_33 : decode cX1_byOrder 33 = .ok (.iconst 0, 1) := by decide +kernel
theorem dX1_byOrder_34 : decode cX1_byOrder 34 = .ok (.istore 5, 2) := by decide +kernel
theorem dX1_byOrder_36 : decode cX1_byOrder 36 = .ok (.iload 4, 2) := by decide +kernel
theorem dX1_byOrder_38 : decode cX1_byOrder 38 = .ok (.ifCond .ne 14, 3) := by decide +kernel
theorem dX1_byOrder_41 : decode cX1_byOrder 41 = .ok (.iload 5, 2) := by decide +kernel
theorem dX1_byOrder_43 : decode cX1_byOrder 43 = .ok (.ifCond .ne 9, 3) := by decide +kernel
theorem dX1_byOrder_46 : decode cX1_byOrder 46 = .ok (.aload_n 0, 1) := by decide +kernel
theorem dX1_byOrder_47 : decode cX1_byOrder 47 = .ok (.invokevirtual 45, 3) := by decide +kernel
theorem dX1_byOrder_50 : decode cX1_byOrder 50 = .ok (.iconst 0, 1) := by decide +kernel
theorem dX1_byOrder_51 : decode cX1_byOrder 51 = .ok (.ireturn, 1) := by decide +kernel
theorem dX1_byOrder_52 : decode cX1_byOrder 52 = .ok (.aload_n 0, 1) := by decide +kernel
theorem dX1_byOrder_53 : decode cX1_byOrder 53 = .ok (.iload_n 3, 1) := by decide +kernel
theorem dX1_byOrder_54 : decode cX1_byOrder 54 = .ok (.iload 4, 2) := by decide +kernel
theorem dX1_byOrder_56 : decode cX1_byOrder 56 = .ok (.ifCond .eq 7, 3) := by decide +kernel
theorem dX1_byOrder_59 : decode cX1_byOrder 59 = .ok (.aload_n 1, 1) := by decide +kernel
theorem dX1_byOrder_60 : decode cX1_byOrder 60 = .ok (.goto 4, 3) := by decide +kernel
theorem dX1_byOrder_63 : decode cX1_byOrder 63 = .ok (.aload_n 2, 1) := by decide +kernel
theorem dX1_byOrder_64 : decode cX1_byOrder 64 = .ok (.iload_n 3, 1) := by decide +kernel
theorem dX1_byOrder_65 : decode cX1_byOrder 65 = .ok (.invokevirtual 48, 3) := by decide +kernel
theorem dX1_byOrder_68 : decode cX1_byOrder 68 = .ok (.iload 4, 2) := by decide +kernel
theorem dX1_byOrder_70 : decode cX1_byOrder 70 = .ok (.ifCond .eq 10, 3) := by decide +kernel
theorem dX1_byOrder_73 : decode cX1_byOrder 73 = .ok (.iload 5, 2) := by decide +kernel
theorem dX1_byOrder_75 : decode cX1_byOrder 75 = .ok (.ifCond .eq 5, 3) := by decide +kernel
theorem dX1_byOrder_78 : decode cX1_byOrder 78 = .ok (.iconst 3, 1) := by decide +kernel
theorem dX1_byOrder_79 : decode cX1_byOrder 79 = .ok (.ireturn, 1) := by decide +kernel
theorem dX1_byOrder_80 : decode cX1_byOrder 80 = .ok (.iload 4, 2) := by decide +kernel
theorem dX1_byOrder_82 : decode cX1_byOrder 82 = .ok (.ifCond .eq 7, 3) := by decide +kernel
theorem dX1_byOrder_85 : decode cX1_byOrder 85 = .ok (.iconst 1, 1) := by decide +kernel
theorem dX1_byOrder_86 : decode cX1_byOrder 86 = .ok (.goto 4, 3) := by decide +kernel
theorem dX1_byOrder_89 : decode cX1_byOrder 89 = .ok (.iconst 2, 1) := by decide +kernel
theorem dX1_byOrder_90 : decode cX1_byOrder 90 = .ok (.ireturn, 1) := by decide +kernel
theorem dX1_bySets_0 : decode cX1_bySets 0 = .ok (.aload_n 0, 1) := by decide +kernel
theorem dX1_bySets_1 : decode cX1_bySets 1 = .ok (.getfield 14, 3) := by decide +kernel
theorem dX1_bySets_4 : decode cX1_bySets 4 = .ok (.aload_n 1, 1) := by decide +kernel
theorem dX1_bySets_5 : decode cX1_bySets 5 = .ok (.invokevirtual 52, 3) := by decide +kernel
theorem dX1_bySets_8 : decode cX1_bySets 8 = .ok (.aload_n 0, 1) := by decide +kernel
theorem dX1_bySets_9 : decode cX1_bySets 9 = .ok (.getfield 20, 3) := by decide +kernel
theorem dX1_bySets_12 : decode cX1_bySets 12 = .ok (.aload_n 2, 1) := by decide +kernel
theorem dX1_bySets_13 : decode cX1_bySets 13 = .ok (.invokevirtual 52, 3) := by decide +kernel
theorem dX1_bySets_16 : decode cX1_bySets 16 = .ok (.aload_n 0, 1) := by decide +kernel
theorem dX1_bySets_17 : decode cX1_bySets 17 = .ok (.getfield 14, 3) := by decide +kernel
theorem dX1_bySets_20 : decode cX1_bySets 20 = .ok (.aload_n 0, 1) := by decide +kernel
theorem dX1_bySets_21 : decode cX1_bySets 21 = .ok (.getfield 20, 3) := by decide +kernel
theorem dX1_bySets_24 : decode cX1_bySets 24 = .ok (.invokevirtual 37, 3) := by decide +kernel
theorem dX1_bySets_27 : decode cX1_bySets 27 = .ok (.istore_n 3, 1) := by decide +kernel
theorem dX1_bySets_28 : decode cX1_bySets 28 = .ok (.iload_n 3, 1) := by decide +kernel
theorem dX1_bySets_29 : decode cX1_bySets 29 = .ok (.aload_n 0, 1) := by decide +kernel
theorem dX1_bySets_30 : decode cX1_bySets 30 = .ok (.getfield 14, 3) := by decide +kernel
theorem dX1_bySets_33 : decode cX1_bySets 33 = .ok (.invokevirtual 41, 3) := by decide +kernel
theorem dX1_bySets_36 : decode cX1_bySets 36 = .ok (.if_icmp .ge 7, 3) := by decide +kernel
theorem dX1_bySets_39 : decode cX1_bySets 39 = .ok (.iconst 1, 1) := by decide +kernel
theorem dX1_bySets_40 : decode cX1_bySets 40 = .ok (.goto 4, 3) := by decide +kernel
theorem dX1_bySets_43 : decode cX1_bySets 43 = .ok (.iconst 0, 1) := by decide +kernel
theorem dX1_bySets_44 : decode cX1_bySets 44 = .ok (.istore 4, 2) := by decide +kernel
theorem dX1_bySets_46 : decode cX1_bySets 46 = .ok (.iload_n 3, 1) := by decide +kernel
theorem dX1_bySets_47 : decode cX1_bySets 47 = .ok (.aload_n 0, 1) := by decide +kernel
theorem dX1_bySets_48 : decode cX1_bySets 48 = .ok (.getfield 20, 3) := by decide +kernel
theorem dX1_bySets_51 : decode cX1_bySets 51 = .ok (.invokevirtual 41, 3) := by decide +kernel
theorem dX1_bySets_54 : decode cX1_bySets 54 = .ok (.if_icmp .ge 7, 3) := by decide +kernel
theorem dX1_bySets_57 : decode cX1_bySets 57 = .ok (.iconst 1, 1) := by decide +kernel
theorem dX1_bySets_58 : decode cX1_bySets 58 = .ok (.goto 4, 3) := by decide +kernel
theorem dX1_bySets_61 : decode cX1_bySets 61 = .ok (.iconst 0, 1) := by decide +kernel
theorem dX1_bySets_62 : decode cX1_bySets 62 = .ok (.istore 5, 2) := by decide +kernel
theorem dX1_bySets_64 : decode cX1_bySets 64 = .ok (.iload 4, 2) := by decide +kernel
theorem dX1_bySets_66 : decode cX1_bySets 66 = .ok (.ifCond .ne 14, 3) := by decide +kernel
theorem dX1_bySets_69 : decode cX1_bySets 69 = .ok (.iload 5, 2) := by decide +kernel
theorem dX1_bySets_71 : decode cX1_bySets 71 = .ok (.ifCond .ne 9, 3) := by decide +kernel
theorem dX1_bySets_74 : decode cX1_bySets 74 = .ok (.aload_n 0, 1) := by decide +kernel
theorem dX1_bySets_75 : decode cX1_bySets 75 = .ok (.invokevirtual 45, 3) := by decide +kernel
theorem dX1_bySets_78 : decode cX1_bySets 78 = .ok (.iconst 0, 1) := by decide +kernel
theorem dX1_bySets_79 : decode cX1_bySets 79 = .ok (.ireturn, 1) := by decide +kernel
theorem dX1_bySets_80 : decode cX1_bySets 80 = .ok (.iload 4, 2) := by decide +kernel
theorem dX1_bySets_82 : decode cX1_bySets 82 = .ok (.ifCond .eq 39, 3) := by decide +kernel
theorem dX1_bySets_85 : decode cX1_bySets 85 = .ok (.iload 5, 2) := by decide +kernel
theorem dX1_bySets_87 : decode cX1_bySets 87 = .ok (.ifCond .eq 30, 3) := by decide +kernel
theorem dX1_bySets_90 : decode cX1_bySets 90 = .ok (.aload_n 0, 1) := by decide +kernel
theorem dX1_bySets_91 : decode cX1_bySets 91 = .ok (.getfield 14, 3) := by decide +kernel
theorem dX1_bySets_94 : decode cX1_bySets 94 = .ok (.iload_n 3, 1) := by decide +kernel
theorem dX1_bySets_95 : decode cX1_bySets 95 = .ok (.aload_n 0, 1) := by decide +kernel
theorem dX1_bySets_96 : decode cX1_bySets 96 = .ok (.getfield 20, 3) := by decide +kernel
theorem dX1_bySets_99 : decode cX1_bySets 99 = .ok (.iload_n 3, 1) := by decide +kernel
theorem dX1_bySets_100 : decode cX1_bySets 100 = .ok (.invokevirtual 56, 3) := by decide +kernel
theorem dX1_bySets_103 : decode cX1_bySets 103 = .ok (.aload_n 0, 1) := by decide +kernel
theorem dX1_bySets_104 : decode cX1_bySets 104 = .ok (.getfield 20, 3) := by decide +kernel
theorem dX1_bySets_107 : decode cX1_bySets 107 = .ok (.iload_n 3, 1) := by decide +kernel
theorem dX1_bySets_108 : decode cX1_bySets 108 = .ok (.invokevirtual 60, 3) := by decide +kernel
theorem dX1_bySets_111 : decode cX1_bySets 111 = .ok (.invokevirtual 63, 3) := by decide +kernel
theorem dX1_bySets_114 : decode cX1_bySets 114 = .ok (.ifCond .gt 7, 3) := by decide +kernel
theorem dX1_bySets_117 : decode cX1_bySets 117 = .ok (.iconst 1, 1) := by decide +kernel
theorem dX1_bySets_118 : decode cX1_bySets 118 = .ok (.goto 4, 3) := by decide +kernel
theorem dX1_bySets_121 : decode cX1_bySets 121 = .ok (.iconst 0, 1) := by decide +kernel
theorem dX1_bySets_122 : decode cX1_bySets 122 = .ok (.istore 6, 2) := by decide +kernel
theorem dX1_bySets_124 : decode cX1_bySets 124 = .ok (.aload_n 0, 1) := by decide +kernel
theorem dX1_bySets_125 : decode cX1_bySets 125 = .ok (.bipush (-4), 2) := by decide +kernel
theorem dX1_bySets_127 : decode cX1_bySets 127 = .ok (.iload 6, 2) := by decide +kernel
theorem dX1_bySets_129 : decode cX1_bySets 129 = .ok (.ifCond .eq 10, 3) := by decide +kernel
theorem dX1_bySets_132 : decode cX1_bySets 132 = .ok (.aload_n 0, 1) := by decide +kernel
theorem dX1_bySets_133 : decode cX1_bySets 133 = .ok (.getfield 14, 3) := by decide +kernel
theorem dX1_bySets_136 : decode cX1_bySets 136 = .ok (.goto 7, 3) := by decide +kernel
theorem dX1_bySets_139 : decode cX1_bySets 139 = .ok (.aload_n 0, 1) := by decide +kernel
theorem dX1_bySets_140 : decode cX1_bySets 140 = .ok (.getfield 20, 3) := by decide +kernel
theorem dX1_bySets_143 : decode cX1_bySets 143 = .ok (.iload_n 3, 1) := by decide +kernel
theorem dX1_bySets_144 : decode cX1_bySets 144 = .ok (.invokevirtual 48, 3) := by decide +kernel
theorem dX1_bySets_147 : decode cX1_bySets 147 = .ok (.aload_n 1, 1) := by decide +kernel
theorem dX1_bySets_148 : decode cX1_bySets 148 = .ok (.aload_n 0, 1) := by decide +kernel
theorem dX1_bySets_149 : decode cX1_bySets 149 = .ok (.getfield 31, 3) := by decide +kernel
theorem dX1_bySets_152 : decode cX1_bySets 152 = .ok (.aload_n 0, 1) := by decide +kernel
theorem dX1_bySets_153 : decode cX1_bySets 153 = .ok (.getfield 34, 3) := by decide +kernel
theorem dX1_bySets_156 : decode cX1_bySets 156 = .ok (.invokevirtual 67, 3) := by decide +kernel
theorem dX1_bySets_159 : decode cX1_bySets 159 = .ok (.aload_n 2, 1) := by decide +kernel
theorem dX1_bySets_160 : decode cX1_bySets 160 = .ok (.aload_n 0, 1) := by decide +kernel
theorem dX1_bySets_161 : decode cX1_bySets 161 = .ok (.getfield 31, 3) := by decide +kernel
theorem dX1_bySets_164 : decode cX1_bySets 164 = .ok (.aload_n 0, 1) := by decide +kernel
theorem dX1_bySets_165 : decode cX1_bySets 165 = .ok (.getfield 34, 3) := by decide +kernel
theorem dX1_bySets_168 : decode cX1_bySets 168 = .ok (.invokevirtual 67, 3) := by decide +kernel
theorem dX1_bySets_171 : decode cX1_bySets 171 = .ok (.invokestatic 71, 3) := by decide +kernel
theorem dX1_bySets_174 : decode cX1_bySets 174 = .ok (.ireturn, 1) := by decide +kernel
theorem dX1_differenceOf_0 : decode cX1_differenceOf 0 = .ok (.iload_n 0, 1) := by decide +kernel
theorem dX1_differenceOf_1 : decode cX1_differenceOf 1 = .ok (.iload_n 1, 1) := by decide +kernel
theorem dX1_differenceOf_2 : decode cX1_differenceOf 2 = .ok (.if_icmp .ne 5, 3) := by decide +kernel
theorem dX1_differenceOf_5 : decode cX1_differenceOf 5 = .ok (.iconst 3, 1) := by decide +kernel
theorem dX1_differenceOf_6 : decode cX1_differenceOf 6 = .ok (.ireturn, 1) := by decide +kernel
theorem dX1_differenceOf_7 : decode cX1_differenceOf 7 = .ok (.iload_n 1, 1) := by decide +kernel
theorem dX1_differenceOf_8 : decode cX1_differenceOf 8 = .ok (.iload_n 0, 1) := by decide +kernel
theorem dX1_differenceOf_9 : decode cX1_differenceOf 9 = .ok (.if_icmp .ge 7, 3) := by decide +kernel
theorem dX1_differenceOf_12 : decode cX1_differenceOf 12 = .ok (.iconst 1, 1) := by decide +kernel
theorem dX1_differenceOf_13 : decode cX1_differenceOf 13 = .ok (.goto 4, 3) := by decide +kernel
theorem dX1_differenceOf_16 : decode cX1_differenceOf 16 = .ok (.iconst 2, 1) := by decide +kernel
theorem dX1_differenceOf_17 : decode cX1_differenceOf 17 = .ok (.ireturn, 1) := by decide +kernel
theorem dX1_keep_0 : decode cX1_keep 0 = .ok (.aload_n 0, 1) := by decide +kernel
theorem dX1_keep_1 : decode cX1_keep 1 = .ok (.iconst 1, 1) := by decide +kernel
theorem dX1_keep_2 : decode cX1_keep 2 = .ok (.putfield 23, 3) := by decide +kernel
theorem dX1_keep_5 : decode cX1_keep 5 = .ok (.aload_n 0, 1) := by decide +kernel
theorem dX1_keep_6 : decode cX1_keep 6 = .ok (.iload_n 1, 1) := by decide +kernel
theorem dX1_keep_7 : decode cX1_keep 7 = .ok (.putfield 27, 3) := by decide +kernel
theorem dX1_keep_10 : decode cX1_keep 10 = .ok (.aload_n 0, 1) := by decide +kernel
theorem dX1_keep_11 : decode cX1_keep 11 = .ok (.aload_n 2, 1) := by decide +kernel
theorem dX1_keep_12 : decode cX1_keep 12 = .ok (.iload_n 3, 1) := by decide +kernel
theorem dX1_keep_13 : decode cX1_keep 13 = .ok (.invokevirtual 56, 3) := by decide +kernel
theorem dX1_keep_16 : decode cX1_keep 16 = .ok (.putfield 31, 3) := by decide +kernel
theorem dX1_keep_19 : decode cX1_keep 19 = .ok (.aload_n 0, 1) := by decide +kernel
theorem dX1_keep_20 : decode cX1_keep 20 = .ok (.aload_n 2, 1) := by decide +kernel
theorem dX1_keep_21 : decode cX1_keep 21 = .ok (.iload_n 3, 1) := by decide +kernel
theorem dX1_keep_22 : decode cX1_keep 22 = .ok (.invokevirtual 60, 3) := by decide +kernel
theorem dX1_keep_25 : decode cX1_keep 25 = .ok (.putfield 34, 3) := by decide +kernel
theorem dX1_keep_28 : decode cX1_keep 28 = .ok (.return_, 1) := by decide +kernel
theorem dX2_init_0 : decode cX2_init 0 = .ok (.aload_n 0, 1) := by decide +kernel
theorem dX2_init_1 : decode cX2_init 1 = .ok (.invokespecial 3, 3) := by decide +kernel
theorem dX2_init_4 : decode cX2_init 4 = .ok (.aload_n 0, 1) := by decide +kernel
theorem dX2_init_5 : decode cX2_init 5 = .ok (.new 9, 3) := by decide +kernel
theorem dX2_init_8 : decode cX2_init 8 = .ok (.dup, 1) := by decide +kernel
theorem dX2_init_9 : decode cX2_init 9 = .ok (.sipush 200, 3) := by decide +kernel
theorem dX2_init_12 : decode cX2_init 12 = .ok (.invokespecial 11, 3) := by decide +kernel
theorem dX2_init_15 : decode cX2_init 15 = .ok (.putfield 14, 3) := by decide +kernel
theorem dX2_init_18 : decode cX2_init 18 = .ok (.aload_n 0, 1) := by decide +kernel
theorem dX2_init_19 : decode cX2_init 19 = .ok (.new 9, 3) := by decide +kernel
theorem dX2_init_22 : decode cX2_init 22 = .ok (.dup, 1) := by decide +kernel
theorem dX2_init_23 : decode cX2_init 23 = .ok (.bipush 40, 2) := by decide +kernel
theorem dX2_init_25 : decode cX2_init 25 = .ok (.invokespecial 11, 3) := by decide +kernel
theorem dX2_init_28 : decode cX2_init 28 = .ok (.putfield 20, 3) := by decide +kernel
theorem dX2_init_31 : decode cX2_init 31 = .ok (.aload_n 0, 1) := by decide +kernel
theorem dX2_init_32 : decode cX2_init 32 = .ok (.iconst 0, 1) := by decide +kernel
theorem dX2_init_33 : decode cX2_init 33 = .ok (.putfield 23, 3) := by decide +kernel
theorem dX2_init_36 : decode cX2_init 36 = .ok (.aload_n 0, 1) := by decide +kernel
theorem dX2_init_37 : decode cX2_init 37 = .ok (.iconst (-1), 1) := by decide +kernel
theorem dX2_init_38 : decode cX2_init 38 = .ok (.putfield 27, 3) := by decide +kernel
theorem dX2_init_41 : decode cX2_init 41 = .ok (.aload_n 0, 1) := by decide +kernel
theorem dX2_init_42 : decode cX2_init 42 = .ok (.iconst (-1), 1) := by decide +kernel
theorem dX2_init_43 : decode cX2_init 43 = .ok (.putfield 30, 3) := by decide +kernel
theorem dX2_init_46 : decode cX2_init 46 = .ok (.aload_n 0, 1) := by decide +kernel
theorem dX2_init_47 : decode cX2_init 47 = .ok (.iconst 0, 1) := by decide +kernel
theorem dX2_init_48 : decode cX2_init 48 = .ok (.putfield 33, 3) := by decide +kernel
theorem dX2_init_51 : decode cX2_init 51 = .ok (.aload_n 0, 1) := by decide +kernel
theorem dX2_init_52 : decode cX2_init 52 = .ok (.iconst 0, 1) := by decide +kernel
theorem dX2_init_53 : decode cX2_init 53 = .ok (.putfield 36, 3) := by decide +kernel
theorem dX2_init_56 : decode cX2_init 56 = .ok (.aload_n 0, 1) := by decide +kernel
theorem dX2_init_57 : decode cX2_init 57 = .ok (.iconst 0, 1) := by decide +kernel
theorem dX2_init_58 : decode cX2_init 58 = .ok (.putfield 39, 3) := by decide +kernel
theorem dX2_init_61 : decode cX2_init 61 = .ok (.aload_n 0, 1) := by decide +kernel
theorem dX2_init_62 : decode cX2_init 62 = .ok (.iconst 0, 1) := by decide +kernel
theorem dX2_init_63 : decode cX2_init 63 = .ok (.putfield 43, 3) := by decide +kernel
theorem dX2_init_66 : decode cX2_init 66 = .ok (.aload_n 0, 1) := by decide +kernel
theorem dX2_init_67 : decode cX2_init 67 = .ok (.iconst 0, 1) := by decide +kernel
theorem dX2_init_68 : decode cX2_init 68 = .ok (.putfield 46, 3) := by decide +kernel
theorem dX2_init_71 : decode cX2_init 71 = .ok (.return_, 1) := by decide +kernel
theorem dX2_become_0 : decode cX2_become 0 = .ok (.aload_n 0, 1) := by decide +kernel
theorem dX2_become_1 : decode cX2_become 1 = .ok (.iload_n 1, 1) := by decide +kernel
theorem dX2_become_2 : decode cX2_become 2 = .ok (.putfield 23, 3) := by decide +kernel
theorem dX2_become_5 : decode cX2_become 5 = .ok (.aload_n 0, 1) := by decide +kernel
theorem dX2_become_6 : decode cX2_become 6 = .ok (.iload_n 2, 1) := by decide +kernel
theorem dX2_become_7 : decode cX2_become 7 = .ok (.putfield 27, 3) := by decide +kernel
theorem dX2_become_10 : decode cX2_become 10 = .ok (.aload_n 0, 1) := by decide +kernel
theorem dX2_become_11 : decode cX2_become 11 = .ok (.iload_n 3, 1) := by decide +kernel
theorem dX2_become_12 : decode cX2_become 12 = .ok (.putfield 30, 3) := by decide +kernel
theorem dX2_become_15 : decode cX2_become 15 = .ok (.aload_n 0, 1) := by decide +kernel
theorem dX2_become_16 : decode cX2_become 16 = .ok (.iload 4, 2) := by decide +kernel
theorem dX2_become_18 : decode cX2_become 18 = .ok (.putfield 33, 3) := by decide +kernel
theorem dX2_become_21 : decode cX2_become 21 = .ok (.aload_n 0, 1) := by decide +kernel
theorem dX2_become_22 : decode cX2_become 22 = .ok (.iload 5, 2) := by decide +kernel
theorem dX2_become_24 : decode cX2_become 24 = .ok (.putfield 36, 3) := by decide +kernel
theorem dX2_become_27 : decode cX2_become 27 = .ok (.return_, 1) := by decide +kernel
theorem dX2_startAgain_0 : decode cX2_startAgain 0 = .ok (.aload_n 0, 1) := by decide +kernel
theorem dX2_startAgain_1 : decode cX2_startAgain 1 = .ok (.getfield 14, 3) := by decide +kernel
theorem dX2_startAgain_4 : decode cX2_startAgain 4 = .ok (.invokevirtual 49, 3) := by decide +kernel
theorem dX2_startAgain_7 : decode cX2_startAgain 7 = .ok (.aload_n 0, 1) := by decide +kernel
theorem dX2_startAgain_8 : decode cX2_startAgain 8 = .ok (.iconst 0, 1) := by decide +kernel
theorem dX2_startAgain_9 : decode cX2_startAgain 9 = .ok (.putfield 39, 3) := by decide +kernel
theorem dX2_startAgain_12 : decode cX2_startAgain 12 = .ok (.aload_n 0, 1) := by decide +kernel
theorem dX2_startAgain_13 : decode cX2_startAgain 13 = .ok (.iconst 0, 1) := by decide +kernel
theorem dX2_startAgain_14 : decode cX2_startAgain 14 = .ok (.putfield 43, 3) := by decide +kernel
theorem dX2_startAgain_17 : decode cX2_startAgain 17 = .ok (.aload_n 0, 1) := by decide +kernel
theorem dX2_startAgain_18 : decode cX2_startAgain 18 = .ok (.iconst 0, 1) := by decide +kernel
theorem dX2_startAgain_19 : decode cX2_startAgain 19 = .ok (.putfield 46, 3) := by decide +kernel
theorem dX2_startAgain_22 : decode cX2_startAgain 22 = .ok (.return_, 1) := by decide +kernel
theorem dX2_end_0 : decode cX2_end 0 = .ok (.aload_n 0, 1) := by decide +kernel
theorem dX2_end_1 : decode cX2_end 1 = .ok (.iload_n 1, 1) := by decide +kernel
theorem dX2_end_2 : decode cX2_end 2 = .ok (.ifCond .ne 7, 3) := by decide +kernel
theorem dX2_end_5 : decode cX2_end 5 = .ok (.iconst 1, 1) := by decide +kernel
theorem dX2_end_6 : decode cX2_end 6 = .ok (.goto 4, 3) := by decide +kernel
theorem dX2_end_9 : decode cX2_end 9 = .ok (.iconst 0, 1) := by decide +kernel
theorem dX2_end_10 : decode cX2_end 10 = .ok (.putfield 39, 3) := by decide +kernel
theorem dX2_end_13 : decode cX2_end 13 = .ok (.aload_n 0, 1) := by decide +kernel
theorem dX2_end_14 : decode cX2_end 14 = .ok (.getfield 39, 3) := by decide +kernel
theorem dX2_end_17 : decode cX2_end 17 = .ok (.ifCond .eq 10, 3) := by decide +kernel
theorem dX2_end_20 : decode cX2_end 20 = .ok (.aload_n 0, 1) := by decide +kernel
theorem dX2_end_21 : decode cX2_end 21 = .ok (.getfield 14, 3) := by decide +kernel
theorem dX2_end_24 : decode cX2_end 24 = .ok (.invokevirtual 49, 3) := by decide +kernel
theorem dX2_end_27 : decode cX2_end 27 = .ok (.return_, 1) := by decide +kernel
theorem dX2_addFailure_0 : decode cX2_addFailure 0 = .ok (.iload_n 1, 1) := by decide +kernel
theorem dX2_addFailure_1 : decode cX2_addFailure 1 = .ok (.ifCond .ne 16, 3) := by decide +kernel
theorem dX2_addFailure_4 : decode cX2_addFailure 4 = .ok (.aload_n 0, 1) := by decide +kernel
theorem dX2_addFailure_5 : decode cX2_addFailure 5 = .ok (.dup, 1) := by decide +kernel
theorem dX2_addFailure_6 : decode cX2_addFailure 6 = .ok (.getfield 43, 3) := by decide +kernel
theorem dX2_addFailure_9 : decode cX2_addFailure 9 = .ok (.iconst 1, 1) := by decide +kernel
theorem dX2_addFailure_10 : decode cX2_addFailure 10 = .ok (.iadd, 1) := by decide +kernel
theorem dX2_addFailure_11 : decode cX2_addFailure 11 = .ok (.putfield 43, 3) := by decide +kernel
theorem dX2_addFailure_14 : decode cX2_addFailure 14 = .ok (.goto 18, 3) := by decide +kernel
theorem dX2_addFailure_17 : decode cX2_addFailure 17 = .ok (.iload_n 1, 1) := by decide +kernel
theorem dX2_addFailure_18 : decode cX2_addFailure 18 = .ok (.iconst 1, 1) := by decide +kernel
theorem dX2_addFailure_19 : decode cX2_addFailure 19 = .ok (.if_icmp .ne 13, 3) := by decide +kernel
theorem dX2_addFailure_22 : decode cX2_addFailure 22 = .ok (.aload_n 0, 1) := by decide +kernel
theorem dX2_addFailure_23 : decode cX2_addFailure 23 = .ok (.dup, 1) := by decide +kernel
theorem dX2_addFailure_24 : decode cX2_addFailure 24 = .ok (.getfield 46, 3) := by decide +kernel
theorem dX2_addFailure_27 : decode cX2_addFailure 27 = .ok (.iconst 1, 1) := by decide +kernel
theorem dX2_addFailure_28 : decode cX2_addFailure 28 = .ok (.iadd, 1) := by decide +kernel
theorem dX2_addFailure_29 : decode cX2_addFailure 29 = .ok (.putfield 46, 3) := by decide +kernel
theorem dX2_addFailure_32 : decode cX2_addFailure 32 = .ok (.return_, 1) := by decide +kernel
theorem dX2_failuresBy_0 : decode cX2_failuresBy 0 = .ok (.iload_n 1, 1) := by decide +kernel
theorem dX2_failuresBy_1 : decode cX2_failuresBy 1 = .ok (.ifCond .ne 10, 3) := by decide +kernel
theorem dX2_failuresBy_4 : decode cX2_failuresBy 4 = .ok (.aload_n 0, 1) := by decide +kernel
theorem dX2_failuresBy_5 : decode cX2_failuresBy 5 = .ok (.getfield 43, 3) := by decide +kernel
theorem dX2_failuresBy_8 : decode cX2_failuresBy 8 = .ok (.goto 7, 3) := by decide +kernel
theorem dX2_failuresBy_11 : decode cX2_failuresBy 11 = .ok (.aload_n 0, 1) := by decide +kernel
theorem dX2_failuresBy_12 : decode cX2_failuresBy 12 = .ok (.getfield 46, 3) := by decide +kernel
theorem dX2_failuresBy_15 : decode cX2_failuresBy 15 = .ok (.ireturn, 1) := by decide +kernel
theorem dX3_init_0 : decode cX3_init 0 = .ok (.aload_n 0, 1) := by decide +kernel
theorem dX3_init_1 : decode cX3_init 1 = .ok (.invokespecial 3, 3) := by decide +kernel
theorem dX3_init_4 : decode cX3_init 4 = .ok (.aload_n 0, 1) := by decide +kernel
theorem dX3_init_5 : decode cX3_init 5 = .ok (.new 9, 3) := by decide +kernel
theorem dX3_init_8 : decode cX3_init 8 = .ok (.dup, 1) := by decide +kernel
theorem dX3_init_9 : decode cX3_init 9 = .ok (.invokespecial 11, 3) := by decide +kernel
theorem dX3_init_12 : decode cX3_init 12 = .ok (.putfield 12, 3) := by decide +kernel
theorem dX3_init_15 : decode cX3_init 15 = .ok (.aload_n 0, 1) := by decide +kernel
theorem dX3_init_16 : decode cX3_init 16 = .ok (.bipush 6, 2) := by decide +kernel
theorem dX3_init_18 : decode cX3_init 18 = .ok (.newarray .int, 2) := by decide +kernel
theorem dX3_init_20 : decode cX3_init 20 = .ok (.putfield 18, 3) := by decide +kernel
theorem dX3_init_23 : decode cX3_init 23 = .ok (.return_, 1) := by decide +kernel
theorem dX3_giveFrom_0 : decode cX3_giveFrom 0 = .ok (.aload_n 1, 1) := by decide +kernel
theorem dX3_giveFrom_1 : decode cX3_giveFrom 1 = .ok (.getfield 22, 3) := by decide +kernel
theorem dX3_giveFrom_4 : decode cX3_giveFrom 4 = .ok (.tableswitch 125 1 8 #[48, 48, 48, 56, 74, 88, 98, 111], 48) := by decide +kernel
theorem dX3_giveFrom_52 : decode cX3_giveFrom 52 = .ok (.aload_n 1, 1) := by decide +kernel
theorem dX3_giveFrom_53 : decode cX3_giveFrom 53 = .ok (.aload_n 2, 1) := by decide +kernel
theorem dX3_giveFrom_54 : decode cX3_giveFrom 54 = .ok (.aload 4, 2) := by decide +kernel
theorem dX3_giveFrom_56 : decode cX3_giveFrom 56 = .ok (.invokestatic 28, 3) := by decide +kernel
theorem dX3_giveFrom_59 : decode cX3_giveFrom 59 = .ok (.ireturn, 1) := by decide +kernel
theorem dX3_giveFrom_60 : decode cX3_giveFrom 60 = .ok (.aload_n 0, 1) := by decide +kernel
theorem dX3_giveFrom_61 : decode cX3_giveFrom 61 = .ok (.aload_n 1, 1) := by decide +kernel
theorem dX3_giveFrom_62 : decode cX3_giveFrom 62 = .ok (.getfield 32, 3) := by decide +kernel
theorem dX3_giveFrom_65 : decode cX3_giveFrom 65 = .ok (.aload_n 2, 1) := by decide +kernel
theorem dX3_giveFrom_66 : decode cX3_giveFrom 66 = .ok (.aload_n 1, 1) := by decide +kernel
theorem dX3_giveFrom_67 : decode cX3_giveFrom 67 = .ok (.getfield 36, 3) := by decide +kernel
theorem dX3_giveFrom_70 : decode cX3_giveFrom 70 = .ok (.aload_n 1, 1) := by decide +kernel
theorem dX3_giveFrom_71 : decode cX3_giveFrom 71 = .ok (.getfield 39, 3) := by decide +kernel
theorem dX3_giveFrom_74 : decode cX3_giveFrom 74 = .ok (.invokevirtual 42, 3) := by decide +kernel
theorem dX3_giveFrom_77 : decode cX3_giveFrom 77 = .ok (.ireturn, 1) := by decide +kernel
theorem dX3_giveFrom_78 : decode cX3_giveFrom 78 = .ok (.aload_n 1, 1) := by decide +kernel
theorem dX3_giveFrom_79 : decode cX3_giveFrom 79 = .ok (.getfield 32, 3) := by decide +kernel
theorem dX3_giveFrom_82 : decode cX3_giveFrom 82 = .ok (.aload_n 2, 1) := by decide +kernel
theorem dX3_giveFrom_83 : decode cX3_giveFrom 83 = .ok (.aload_n 3, 1) := by decide +kernel
theorem dX3_giveFrom_84 : decode cX3_giveFrom 84 = .ok (.aload_n 1, 1) := by decide +kernel
theorem dX3_giveFrom_85 : decode cX3_giveFrom 85 = .ok (.getfield 36, 3) := by decide +kernel
theorem dX3_giveFrom_88 : decode cX3_giveFrom 88 = .ok (.invokestatic 46, 3) := by decide +kernel
theorem dX3_giveFrom_91 : decode cX3_giveFrom 91 = .ok (.ireturn, 1) := by decide +kernel
theorem dX3_giveFrom_92 : decode cX3_giveFrom 92 = .ok (.aload_n 1, 1) := by decide +kernel
theorem dX3_giveFrom_93 : decode cX3_giveFrom 93 = .ok (.getfield 32, 3) := by decide +kernel
theorem dX3_giveFrom_96 : decode cX3_giveFrom 96 = .ok (.aload_n 2, 1) := by decide +kernel
theorem dX3_giveFrom_97 : decode cX3_giveFrom 97 = .ok (.aload_n 3, 1) := by decide +kernel
theorem dX3_giveFrom_98 : decode cX3_giveFrom 98 = .ok (.invokestatic 50, 3) := by decide +kernel
theorem dX3_giveFrom_101 : decode cX3_giveFrom 101 = .ok (.ireturn, 1) := by decide +kernel
theorem dX3_giveFrom_102 : decode cX3_giveFrom 102 = .ok (.aload_n 1, 1) := by decide +kernel
theorem dX3_giveFrom_103 : decode cX3_giveFrom 103 = .ok (.getfield 32, 3) := by decide +kernel
theorem dX3_giveFrom_106 : decode cX3_giveFrom 106 = .ok (.aload_n 2, 1) := by decide +kernel
theorem dX3_giveFrom_107 : decode cX3_giveFrom 107 = .ok (.aload_n 1, 1) := by decide +kernel
theorem dX3_giveFrom_108 : decode cX3_giveFrom 108 = .ok (.getfield 36, 3) := by decide +kernel
theorem dX3_giveFrom_111 : decode cX3_giveFrom 111 = .ok (.invokestatic 54, 3) := by decide +kernel
theorem dX3_giveFrom_114 : decode cX3_giveFrom 114 = .ok (.ireturn, 1) := by decide +kernel
theorem dX3_giveFrom_115 : decode cX3_giveFrom 115 = .ok (.aload_n 0, 1) := by decide +kernel
theorem dX3_giveFrom_116 : decode cX3_giveFrom 116 = .ok (.aload_n 1, 1) := by decide +kernel
theorem dX3_giveFrom_117 : decode cX3_giveFrom 117 = .ok (.getfield 32, 3) := by decide +kernel
theorem dX3_giveFrom_120 : decode cX3_giveFrom 120 = .ok (.aload_n 2, 1) := by decide +kernel
theorem dX3_giveFrom_121 : decode cX3_giveFrom 121 = .ok (.aload_n 1, 1) := by decide +kernel
theorem dX3_giveFrom_122 : decode cX3_giveFrom 122 = .ok (.getfield 36, 3) := by decide +kernel
theorem dX3_giveFrom_125 : decode cX3_giveFrom 125 = .ok (.invokevirtual 58, 3) := by decide +kernel
theorem dX3_giveFrom_128 : decode cX3_giveFrom 128 = .ok (.ireturn, 1) := by decide +kernel
theorem dX3_giveFrom_129 : decode cX3_giveFrom 129 = .ok (.iconst 0, 1) := by decide +kernel
theorem dX3_giveFrom_130 : decode cX3_giveFrom 130 = .ok (.ireturn, 1) := by decide +kernel
theorem dX3_giveEach_0 : decode cX3_giveEach 0 = .ok (.iconst 0, 1) := by decide +kernel
theorem dX3_giveEach_1 : decode cX3_giveEach 1 = .ok (.istore_n 3, 1) := by decide +kernel
theorem dX3_giveEach_2 : decode cX3_giveEach 2 = .ok (.iload_n 3, 1) := by decide +kernel
theorem dX3_giveEach_3 : decode cX3_giveEach 3 = .ok (.aload_n 1, 1) := by decide +kernel
theorem dX3_giveEach_4 : decode cX3_giveEach 4 = .ok (.invokevirtual 61, 3) := by decide +kernel
theorem dX3_giveEach_7 : decode cX3_giveEach 7 = .ok (.if_icmp .ge 71, 3) := by decide +kernel
theorem dX3_giveEach_10 : decode cX3_giveEach 10 = .ok (.aload_n 2, 1) := by decide +kernel
theorem dX3_giveEach_11 : decode cX3_giveEach 11 = .ok (.aload_n 0, 1) := by decide +kernel
theorem dX3_giveEach_12 : decode cX3_giveEach 12 = .ok (.getfield 36, 3) := by decide +kernel
theorem dX3_giveEach_15 : decode cX3_giveEach 15 = .ok (.aload_n 1, 1) := by decide +kernel
theorem dX3_giveEach_16 : decode cX3_giveEach 16 = .ok (.iload_n 3, 1) := by decide +kernel
theorem dX3_giveEach_17 : decode cX3_giveEach 17 = .ok (.invokevirtual 67, 3) := by decide +kernel
theorem dX3_giveEach_20 : decode cX3_giveEach 20 = .ok (.aload_n 0, 1) := by decide +kernel
theorem dX3_giveEach_21 : decode cX3_giveEach 21 = .ok (.getfield 39, 3) := by decide +kernel
theorem dX3_giveEach_24 : decode cX3_giveEach 24 = .ok (.invokevirtual 71, 3) := by decide +kernel
theorem dX3_giveEach_27 : decode cX3_giveEach 27 = .ok (.istore 4, 2) := by decide +kernel
theorem dX3_giveEach_29 : decode cX3_giveEach 29 = .ok (.iload 4, 2) := by decide +kernel
theorem dX3_giveEach_31 : decode cX3_giveEach 31 = .ok (.iconst (-1), 1) := by decide +kernel
theorem dX3_giveEach_32 : decode cX3_giveEach 32 = .ok (.if_icmp .eq 12, 3) := by decide +kernel
theorem dX3_giveEach_35 : decode cX3_giveEach 35 = .ok (.aload_n 0, 1) := by decide +kernel
theorem dX3_giveEach_36 : decode cX3_giveEach 36 = .ok (.iload 4, 2) := by decide +kernel
theorem dX3_giveEach_38 : decode cX3_giveEach 38 = .ok (.invokevirtual 77, 3) := by decide +kernel
theorem dX3_giveEach_41 : decode cX3_giveEach 41 = .ok (.goto 31, 3) := by decide +kernel
theorem dX3_giveEach_44 : decode cX3_giveEach 44 = .ok (.aload_n 0, 1) := by decide +kernel
theorem dX3_giveEach_45 : decode cX3_giveEach 45 = .ok (.aload_n 1, 1) := by decide +kernel
theorem dX3_giveEach_46 : decode cX3_giveEach 46 = .ok (.iload_n 3, 1) := by decide +kernel
theorem dX3_giveEach_47 : decode cX3_giveEach 47 = .ok (.aload_n 2, 1) := by decide +kernel
theorem dX3_giveEach_48 : decode cX3_giveEach 48 = .ok (.aload_n 0, 1) := by decide +kernel
theorem dX3_giveEach_49 : decode cX3_giveEach 49 = .ok (.getfield 36, 3) := by decide +kernel
theorem dX3_giveEach_52 : decode cX3_giveEach 52 = .ok (.aload_n 1, 1) := by decide +kernel
theorem dX3_giveEach_53 : decode cX3_giveEach 53 = .ok (.iload_n 3, 1) := by decide +kernel
theorem dX3_giveEach_54 : decode cX3_giveEach 54 = .ok (.invokevirtual 67, 3) := by decide +kernel
theorem dX3_giveEach_57 : decode cX3_giveEach 57 = .ok (.aload_n 0, 1) := by decide +kernel
theorem dX3_giveEach_58 : decode cX3_giveEach 58 = .ok (.getfield 39, 3) := by decide +kernel
theorem dX3_giveEach_61 : decode cX3_giveEach 61 = .ok (.invokevirtual 81, 3) := by decide +kernel
theorem dX3_giveEach_64 : decode cX3_giveEach 64 = .ok (.invokestatic 85, 3) := by decide +kernel
theorem dX3_giveEach_67 : decode cX3_giveEach 67 = .ok (.ifCond .ne 5, 3) := by decide +kernel
theorem dX3_giveEach_70 : decode cX3_giveEach 70 = .ok (.iconst 0, 1) := by decide +kernel
theorem dX3_giveEach_71 : decode cX3_giveEach 71 = .ok (.ireturn, 1) := by decide +kernel
theorem dX3_giveEach_72 : decode cX3_giveEach 72 = .ok (.iinc 3 1, 3) := by decide +kernel
theorem dX3_giveEach_75 : decode cX3_giveEach 75 = .ok (.goto (-73), 3) := by decide +kernel
theorem dX3_giveEach_78 : decode cX3_giveEach 78 = .ok (.iconst 1, 1) := by decide +kernel
theorem dX3_giveEach_79 : decode cX3_giveEach 79 = .ok (.ireturn, 1) := by decide +kernel
theorem dX3_giveOne_0 : decode cX3_giveOne 0 = .ok (.aload_n 0, 1) := by decide +kernel
theorem dX3_giveOne_1 : decode cX3_giveOne 1 = .ok (.getfield 22, 3) := by decide +kernel
theorem dX3_giveOne_4 : decode cX3_giveOne 4 = .ok (.iconst 1, 1) := by decide +kernel
theorem dX3_giveOne_5 : decode cX3_giveOne 5 = .ok (.if_icmp .ne 22, 3) := by decide +kernel
theorem dX3_giveOne_8 : decode cX3_giveOne 8 = .ok (.aload_n 0, 1) := by decide +kernel
theorem dX3_giveOne_9 : decode cX3_giveOne 9 = .ok (.getfield 32, 3) := by decide +kernel
theorem dX3_giveOne_12 : decode cX3_giveOne 12 = .ok (.aload_n 1, 1) := by decide +kernel
theorem dX3_giveOne_13 : decode cX3_giveOne 13 = .ok (.iload_n 2, 1) := by decide +kernel
theorem dX3_giveOne_14 : decode cX3_giveOne 14 = .ok (.invokevirtual 89, 3) := by decide +kernel
theorem dX3_giveOne_17 : decode cX3_giveOne 17 = .ok (.aload_n 1, 1) := by decide +kernel
theorem dX3_giveOne_18 : decode cX3_giveOne 18 = .ok (.iload_n 2, 1) := by decide +kernel
theorem dX3_giveOne_19 : decode cX3_giveOne 19 = .ok (.invokevirtual 93, 3) := by decide +kernel
theorem dX3_giveOne_22 : decode cX3_giveOne 22 = .ok (.lload_n 3, 1) := by decide +kernel
theorem dX3_giveOne_23 : decode cX3_giveOne 23 = .ok (.invokevirtual 96, 3) := by decide +kernel
theorem dX3_giveOne_26 : decode cX3_giveOne 26 = .ok (.ireturn, 1) := by decide +kernel
theorem dX3_giveOne_27 : decode cX3_giveOne 27 = .ok (.aload_n 0, 1) := by decide +kernel
theorem dX3_giveOne_28 : decode cX3_giveOne 28 = .ok (.getfield 22, 3) := by decide +kernel
theorem dX3_giveOne_31 : decode cX3_giveOne 31 = .ok (.iconst 3, 1) := by decide +kernel
theorem dX3_giveOne_32 : decode cX3_giveOne 32 = .ok (.if_icmp .ne 29, 3) := by decide +kernel
theorem dX3_giveOne_35 : decode cX3_giveOne 35 = .ok (.aload_n 0, 1) := by decide +kernel
theorem dX3_giveOne_36 : decode cX3_giveOne 36 = .ok (.getfield 32, 3) := by decide +kernel
theorem dX3_giveOne_39 : decode cX3_giveOne 39 = .ok (.aload_n 1, 1) := by decide +kernel
theorem dX3_giveOne_40 : decode cX3_giveOne 40 = .ok (.iload_n 2, 1) := by decide +kernel
theorem dX3_giveOne_41 : decode cX3_giveOne 41 = .ok (.invokevirtual 89, 3) := by decide +kernel
theorem dX3_giveOne_44 : decode cX3_giveOne 44 = .ok (.lload_n 3, 1) := by decide +kernel
theorem dX3_giveOne_45 : decode cX3_giveOne 45 = .ok (.ldc2_w 100, 3) := by decide +kernel
theorem dX3_giveOne_48 : decode cX3_giveOne 48 = .ok (.invokestatic 102, 3) := by decide +kernel
theorem dX3_giveOne_51 : decode cX3_giveOne 51 = .ok (.l2i, 1) := by decide +kernel
theorem dX3_giveOne_52 : decode cX3_giveOne 52 = .ok (.aload_n 1, 1) := by decide +kernel
theorem dX3_giveOne_53 : decode cX3_giveOne 53 = .ok (.iload_n 2, 1) := by decide +kernel
theorem dX3_giveOne_54 : decode cX3_giveOne 54 = .ok (.invokevirtual 67, 3) := by decide +kernel
theorem dX3_giveOne_57 : decode cX3_giveOne 57 = .ok (.invokevirtual 96, 3) := by decide +kernel
theorem dX3_giveOne_60 : decode cX3_giveOne 60 = .ok (.ireturn, 1) := by decide +kernel
theorem dX3_giveOne_61 : decode cX3_giveOne 61 = .ok (.lload_n 3, 1) := by decide +kernel
theorem dX3_giveOne_62 : decode cX3_giveOne 62 = .ok (.lconst 0, 1) := by decide +kernel
theorem dX3_giveOne_63 : decode cX3_giveOne 63 = .ok (.lcmp, 1) := by decide +kernel
theorem dX3_giveOne_64 : decode cX3_giveOne 64 = .ok (.ifCond .le 28, 3) := by decide +kernel
theorem dX3_giveOne_67 : decode cX3_giveOne 67 = .ok (.aload_n 0, 1) := by decide +kernel
theorem dX3_giveOne_68 : decode cX3_giveOne 68 = .ok (.getfield 32, 3) := by decide +kernel
theorem dX3_giveOne_71 : decode cX3_giveOne 71 = .ok (.aload_n 1, 1) := by decide +kernel
theorem dX3_giveOne_72 : decode cX3_giveOne 72 = .ok (.iload_n 2, 1) := by decide +kernel
theorem dX3_giveOne_73 : decode cX3_giveOne 73 = .ok (.invokevirtual 89, 3) := by decide +kernel
theorem dX3_giveOne_76 : decode cX3_giveOne 76 = .ok (.aload_n 1, 1) := by decide +kernel
theorem dX3_giveOne_77 : decode cX3_giveOne 77 = .ok (.iload_n 2, 1) := by decide +kernel
theorem dX3_giveOne_78 : decode cX3_giveOne 78 = .ok (.invokevirtual 93, 3) := by decide +kernel
theorem dX3_giveOne_81 : decode cX3_giveOne 81 = .ok (.aload_n 1, 1) := by decide +kernel
theorem dX3_giveOne_82 : decode cX3_giveOne 82 = .ok (.iload_n 2, 1) := by decide +kernel
theorem dX3_giveOne_83 : decode cX3_giveOne 83 = .ok (.invokevirtual 67, 3) := by decide +kernel
theorem dX3_giveOne_86 : decode cX3_giveOne 86 = .ok (.invokevirtual 96, 3) := by decide +kernel
theorem dX3_giveOne_89 : decode cX3_giveOne 89 = .ok (.ifCond .eq 7, 3) := by decide +kernel
theorem dX3_giveOne_92 : decode cX3_giveOne 92 = .ok (.iconst 1, 1) := by decide +kernel
theorem dX3_giveOne_93 : decode cX3_giveOne 93 = .ok (.goto 4, 3) := by decide +kernel
theorem dX3_giveOne_96 : decode cX3_giveOne 96 = .ok (.iconst 0, 1) := by decide +kernel
theorem dX3_giveOne_97 : decode cX3_giveOne 97 = .ok (.ireturn, 1) := by decide +kernel
theorem dX3_giveSpans_0 : decode cX3_giveSpans 0 = .ok (.iload_n 3, 1) := by decide +kernel
theorem dX3_giveSpans_1 : decode cX3_giveSpans 1 = .ok (.iconst 1, 1) := by decide +kernel
theorem dX3_giveSpans_2 : decode cX3_giveSpans 2 = .ok (.if_icmp .ge 5, 3) := by decide +kernel
theorem dX3_giveSpans_5 : decode cX3_giveSpans 5 = .ok (.iconst 0, 1) := by decide +kernel
theorem dX3_giveSpans_6 : decode cX3_giveSpans 6 = .ok (.ireturn, 1) := by decide +kernel
theorem dX3_giveSpans_7 : decode cX3_giveSpans 7 = .ok (.iconst (-1), 1) := by decide +kernel
theorem dX3_giveSpans_8 : decode cX3_giveSpans 8 = .ok (.istore 5, 2) := by decide +kernel
theorem dX3_giveSpans_10 : decode cX3_giveSpans 10 = .ok (.aload_n 0, 1) := by decide +kernel
theorem dX3_giveSpans_11 : decode cX3_giveSpans 11 = .ok (.getfield 12, 3) := by decide +kernel
theorem dX3_giveSpans_14 : decode cX3_giveSpans 14 = .ok (.invokevirtual 108, 3) := by decide +kernel
theorem dX3_giveSpans_17 : decode cX3_giveSpans 17 = .ok (.iconst 0, 1) := by decide +kernel
theorem dX3_giveSpans_18 : decode cX3_giveSpans 18 = .ok (.istore 6, 2) := by decide +kernel
theorem dX3_giveSpans_20 : decode cX3_giveSpans 20 = .ok (.iload 6, 2) := by decide +kernel
theorem dX3_giveSpans_22 : decode cX3_giveSpans 22 = .ok (.aload_n 2, 1) := by decide +kernel
theorem dX3_giveSpans_23 : decode cX3_giveSpans 23 = .ok (.invokevirtual 61, 3) := by decide +kernel
theorem dX3_giveSpans_26 : decode cX3_giveSpans 26 = .ok (.if_icmp .ge 72, 3) := by decide +kernel
theorem dX3_giveSpans_29 : decode cX3_giveSpans 29 = .ok (.aload_n 2, 1) := by decide +kernel
theorem dX3_giveSpans_30 : decode cX3_giveSpans 30 = .ok (.iload 6, 2) := by decide +kernel
theorem dX3_giveSpans_32 : decode cX3_giveSpans 32 = .ok (.invokevirtual 89, 3) := by decide +kernel
theorem dX3_giveSpans_35 : decode cX3_giveSpans 35 = .ok (.iload_n 3, 1) := by decide +kernel
theorem dX3_giveSpans_36 : decode cX3_giveSpans 36 = .ok (.idiv, 1) := by decide +kernel
theorem dX3_giveSpans_37 : decode cX3_giveSpans 37 = .ok (.istore 7, 2) := by decide +kernel
theorem dX3_giveSpans_39 : decode cX3_giveSpans 39 = .ok (.iload 7, 2) := by decide +kernel
theorem dX3_giveSpans_41 : decode cX3_giveSpans 41 = .ok (.iload 5, 2) := by decide +kernel
theorem dX3_giveSpans_43 : decode cX3_giveSpans 43 = .ok (.if_icmp .eq 24, 3) := by decide +kernel
theorem dX3_giveSpans_46 : decode cX3_giveSpans 46 = .ok (.aload_n 0, 1) := by decide +kernel
theorem dX3_giveSpans_47 : decode cX3_giveSpans 47 = .ok (.getfield 12, 3) := by decide +kernel
theorem dX3_giveSpans_50 : decode cX3_giveSpans 50 = .ok (.aload_n 1, 1) := by decide +kernel
theorem dX3_giveSpans_51 : decode cX3_giveSpans 51 = .ok (.iload 5, 2) := by decide +kernel
theorem dX3_giveSpans_53 : decode cX3_giveSpans 53 = .ok (.iconst 1, 1) := by decide +kernel
theorem dX3_giveSpans_54 : decode cX3_giveSpans 54 = .ok (.iadd, 1) := by decide +kernel
theorem dX3_giveSpans_55 : decode cX3_giveSpans 55 = .ok (.iload_n 3, 1) := by decide +kernel
theorem dX3_giveSpans_56 : decode cX3_giveSpans 56 = .ok (.imul, 1) := by decide +kernel
theorem dX3_giveSpans_57 : decode cX3_giveSpans 57 = .ok (.iconst 1, 1) := by decide +kernel
theorem dX3_giveSpans_58 : decode cX3_giveSpans 58 = .ok (.isub, 1) := by decide +kernel
theorem dX3_giveSpans_59 : decode cX3_giveSpans 59 = .ok (.invokevirtual 111, 3) := by decide +kernel
theorem dX3_giveSpans_62 : decode cX3_giveSpans 62 = .ok (.ifCond .ne 5, 3) := by decide +kernel
theorem dX3_giveSpans_65 : decode cX3_giveSpans 65 = .ok (.iconst 0, 1) := by decide +kernel
theorem dX3_giveSpans_66 : decode cX3_giveSpans 66 = .ok (.ireturn, 1) := by decide +kernel
theorem dX3_giveSpans_67 : decode cX3_giveSpans 67 = .ok (.iload 7, 2) := by decide +kernel
theorem dX3_giveSpans_69 : decode cX3_giveSpans 69 = .ok (.istore 5, 2) := by decide +kernel
theorem dX3_giveSpans_71 : decode cX3_giveSpans 71 = .ok (.aload_n 0, 1) := by decide +kernel
theorem dX3_giveSpans_72 : decode cX3_giveSpans 72 = .ok (.getfield 12, 3) := by decide +kernel
theorem dX3_giveSpans_75 : decode cX3_giveSpans 75 = .ok (.aload_n 2, 1) := by decide +kernel
theorem dX3_giveSpans_76 : decode cX3_giveSpans 76 = .ok (.iload 6, 2) := by decide +kernel
theorem dX3_giveSpans_78 : decode cX3_giveSpans 78 = .ok (.invokevirtual 93, 3) := by decide +kernel
theorem dX3_giveSpans_81 : decode cX3_giveSpans 81 = .ok (.aload_n 2, 1) := by decide +kernel
theorem dX3_giveSpans_82 : decode cX3_giveSpans 82 = .ok (.iload 6, 2) := by decide +kernel
theorem dX3_giveSpans_84 : decode cX3_giveSpans 84 = .ok (.invokevirtual 67, 3) := by decide +kernel
theorem dX3_giveSpans_87 : decode cX3_giveSpans 87 = .ok (.iload 4, 2) := by decide +kernel
theorem dX3_giveSpans_89 : decode cX3_giveSpans 89 = .ok (.invokevirtual 115, 3) := by decide +kernel
theorem dX3_giveSpans_92 : decode cX3_giveSpans 92 = .ok (.iinc 6 1, 3) := by decide +kernel
theorem dX3_giveSpans_95 : decode cX3_giveSpans 95 = .ok (.goto (-75), 3) := by decide +kernel
theorem dX3_giveSpans_98 : decode cX3_giveSpans 98 = .ok (.aload_n 0, 1) := by decide +kernel
theorem dX3_giveSpans_99 : decode cX3_giveSpans 99 = .ok (.getfield 12, 3) := by decide +kernel
theorem dX3_giveSpans_102 : decode cX3_giveSpans 102 = .ok (.aload_n 1, 1) := by decide +kernel
theorem dX3_giveSpans_103 : decode cX3_giveSpans 103 = .ok (.iload 5, 2) := by decide +kernel
theorem dX3_giveSpans_105 : decode cX3_giveSpans 105 = .ok (.iconst 1, 1) := by decide +kernel
theorem dX3_giveSpans_106 : decode cX3_giveSpans 106 = .ok (.iadd, 1) := by decide +kernel
theorem dX3_giveSpans_107 : decode cX3_giveSpans 107 = .ok (.iload_n 3, 1) := by decide +kernel
theorem dX3_giveSpans_108 : decode cX3_giveSpans 108 = .ok (.imul, 1) := by decide +kernel
theorem dX3_giveSpans_109 : decode cX3_giveSpans 109 = .ok (.iconst 1, 1) := by decide +kernel
theorem dX3_giveSpans_110 : decode cX3_giveSpans 110 = .ok (.isub, 1) := by decide +kernel
theorem dX3_giveSpans_111 : decode cX3_giveSpans 111 = .ok (.invokevirtual 111, 3) := by decide +kernel
theorem dX3_giveSpans_114 : decode cX3_giveSpans 114 = .ok (.ireturn, 1) := by decide +kernel
theorem dX3_giveJoin_0 : decode cX3_giveJoin 0 = .ok (.iconst 0, 1) := by decide +kernel
theorem dX3_giveJoin_1 : decode cX3_giveJoin 1 = .ok (.istore 4, 2) := by decide +kernel
theorem dX3_giveJoin_3 : decode cX3_giveJoin 3 = .ok (.iconst 0, 1) := by decide +kernel
theorem dX3_giveJoin_4 : decode cX3_giveJoin 4 = .ok (.istore 5, 2) := by decide +kernel
theorem dX3_giveJoin_6 : decode cX3_giveJoin 6 = .ok (.iload 5, 2) := by decide +kernel
theorem dX3_giveJoin_8 : decode cX3_giveJoin 8 = .ok (.aload_n 1, 1) := by decide +kernel
theorem dX3_giveJoin_9 : decode cX3_giveJoin 9 = .ok (.invokevirtual 61, 3) := by decide +kernel
theorem dX3_giveJoin_12 : decode cX3_giveJoin 12 = .ok (.if_icmp .ge 111, 3) := by decide +kernel
theorem dX3_giveJoin_15 : decode cX3_giveJoin 15 = .ok (.aload_n 1, 1) := by decide +kernel
theorem dX3_giveJoin_16 : decode cX3_giveJoin 16 = .ok (.iload 5, 2) := by decide +kernel
theorem dX3_giveJoin_18 : decode cX3_giveJoin 18 = .ok (.invokevirtual 89, 3) := by decide +kernel
theorem dX3_giveJoin_21 : decode cX3_giveJoin 21 = .ok (.istore 6, 2) := by decide +kernel
theorem dX3_giveJoin_23 : decode cX3_giveJoin 23 = .ok (.aload_n 1, 1) := by decide +kernel
theorem dX3_giveJoin_24 : decode cX3_giveJoin 24 = .ok (.iload 5, 2) := by decide +kernel
theorem dX3_giveJoin_26 : decode cX3_giveJoin 26 = .ok (.invokevirtual 93, 3) := by decide +kernel
theorem dX3_giveJoin_29 : decode cX3_giveJoin 29 = .ok (.istore 7, 2) := by decide +kernel
theorem dX3_giveJoin_31 : decode cX3_giveJoin 31 = .ok (.iload 4, 2) := by decide +kernel
theorem dX3_giveJoin_33 : decode cX3_giveJoin 33 = .ok (.aload_n 2, 1) := by decide +kernel
theorem dX3_giveJoin_34 : decode cX3_giveJoin 34 = .ok (.invokevirtual 61, 3) := by decide +kernel
theorem dX3_giveJoin_37 : decode cX3_giveJoin 37 = .ok (.if_icmp .ge 22, 3) := by decide +kernel
theorem dX3_giveJoin_40 : decode cX3_giveJoin 40 = .ok (.aload_n 2, 1) := by decide +kernel
theorem dX3_giveJoin_41 : decode cX3_giveJoin 41 = .ok (.iload 4, 2) := by decide +kernel
theorem dX3_giveJoin_43 : decode cX3_giveJoin 43 = .ok (.invokevirtual 89, 3) := by decide +kernel
theorem dX3_giveJoin_46 : decode cX3_giveJoin 46 = .ok (.iload 6, 2) := by decide +kernel
theorem dX3_giveJoin_48 : decode cX3_giveJoin 48 = .ok (.iload_n 3, 1) := by decide +kernel
theorem dX3_giveJoin_49 : decode cX3_giveJoin 49 = .ok (.isub, 1) := by decide +kernel
theorem dX3_giveJoin_50 : decode cX3_giveJoin 50 = .ok (.if_icmp .ge 9, 3) := by decide +kernel
theorem dX3_giveJoin_53 : decode cX3_giveJoin 53 = .ok (.iinc 4 1, 3) := by decide +kernel
theorem dX3_giveJoin_56 : decode cX3_giveJoin 56 = .ok (.goto (-25), 3) := by decide +kernel
theorem dX3_giveJoin_59 : decode cX3_giveJoin 59 = .ok (.iload 4, 2) := by decide +kernel
theorem dX3_giveJoin_61 : decode cX3_giveJoin 61 = .ok (.istore 8, 2) := by decide +kernel
theorem dX3_giveJoin_63 : decode cX3_giveJoin 63 = .ok (.iload 8, 2) := by decide +kernel
theorem dX3_giveJoin_65 : decode cX3_giveJoin 65 = .ok (.aload_n 2, 1) := by decide +kernel
theorem dX3_giveJoin_66 : decode cX3_giveJoin 66 = .ok (.invokevirtual 61, 3) := by decide +kernel
theorem dX3_giveJoin_69 : decode cX3_giveJoin 69 = .ok (.if_icmp .ge 48, 3) := by decide +kernel
theorem dX3_giveJoin_72 : decode cX3_giveJoin 72 = .ok (.aload_n 2, 1) := by decide +kernel
theorem dX3_giveJoin_73 : decode cX3_giveJoin 73 = .ok (.iload 8, 2) := by decide +kernel
theorem dX3_giveJoin_75 : decode cX3_giveJoin 75 = .ok (.invokevirtual 89, 3) := by decide +kernel
theorem dX3_giveJoin_78 : decode cX3_giveJoin 78 = .ok (.iload 6, 2) := by decide +kernel
theorem dX3_giveJoin_80 : decode cX3_giveJoin 80 = .ok (.iload_n 3, 1) := by decide +kernel
theorem dX3_giveJoin_81 : decode cX3_giveJoin 81 = .ok (.iadd, 1) := by decide +kernel
theorem dX3_giveJoin_82 : decode cX3_giveJoin 82 = .ok (.if_icmp .gt 35, 3) := by decide +kernel
theorem dX3_giveJoin_85 : decode cX3_giveJoin 85 = .ok (.aload_n 2, 1) := by decide +kernel
theorem dX3_giveJoin_86 : decode cX3_giveJoin 86 = .ok (.iload 8, 2) := by decide +kernel
theorem dX3_giveJoin_88 : decode cX3_giveJoin 88 = .ok (.invokevirtual 93, 3) := by decide +kernel
theorem dX3_giveJoin_91 : decode cX3_giveJoin 91 = .ok (.iload 7, 2) := by decide +kernel
theorem dX3_giveJoin_93 : decode cX3_giveJoin 93 = .ok (.if_icmp .ne 18, 3) := by decide +kernel
theorem dX3_giveJoin_96 : decode cX3_giveJoin 96 = .ok (.aload_n 0, 1) := by decide +kernel
theorem dX3_giveJoin_97 : decode cX3_giveJoin 97 = .ok (.aload_n 1, 1) := by decide +kernel
theorem dX3_giveJoin_98 : decode cX3_giveJoin 98 = .ok (.iload 5, 2) := by decide +kernel
theorem dX3_giveJoin_100 : decode cX3_giveJoin 100 = .ok (.aload_n 2, 1) := by decide +kernel
theorem dX3_giveJoin_101 : decode cX3_giveJoin 101 = .ok (.iload 8, 2) := by decide +kernel
theorem dX3_giveJoin_103 : decode cX3_giveJoin 103 = .ok (.invokestatic 119, 3) := by decide +kernel
theorem dX3_giveJoin_106 : decode cX3_giveJoin 106 = .ok (.ifCond .ne 5, 3) := by decide +kernel
theorem dX3_giveJoin_109 : decode cX3_giveJoin 109 = .ok (.iconst 0, 1) := by decide +kernel
theorem dX3_giveJoin_110 : decode cX3_giveJoin 110 = .ok (.ireturn, 1) := by decide +kernel
theorem dX3_giveJoin_111 : decode cX3_giveJoin 111 = .ok (.iinc 8 1, 3) := by decide +kernel
theorem dX3_giveJoin_114 : decode cX3_giveJoin 114 = .ok (.goto (-51), 3) := by decide +kernel
theorem dX3_giveJoin_117 : decode cX3_giveJoin 117 = .ok (.iinc 5 1, 3) := by decide +kernel
theorem dX3_giveJoin_120 : decode cX3_giveJoin 120 = .ok (.goto (-114), 3) := by decide +kernel
theorem dX3_giveJoin_123 : decode cX3_giveJoin 123 = .ok (.iconst 1, 1) := by decide +kernel
theorem dX3_giveJoin_124 : decode cX3_giveJoin 124 = .ok (.ireturn, 1) := by decide +kernel
theorem dX3_givePair_0 : decode cX3_givePair 0 = .ok (.aload_n 1, 1) := by decide +kernel
theorem dX3_givePair_1 : decode cX3_givePair 1 = .ok (.iload_n 2, 1) := by decide +kernel
theorem dX3_givePair_2 : decode cX3_givePair 2 = .ok (.invokevirtual 89, 3) := by decide +kernel
theorem dX3_givePair_5 : decode cX3_givePair 5 = .ok (.aload_n 3, 1) := by decide +kernel
theorem dX3_givePair_6 : decode cX3_givePair 6 = .ok (.iload 4, 2) := by decide +kernel
theorem dX3_givePair_8 : decode cX3_givePair 8 = .ok (.invokevirtual 89, 3) := by decide +kernel
theorem dX3_givePair_11 : decode cX3_givePair 11 = .ok (.invokestatic 123, 3) := by decide +kernel
theorem dX3_givePair_14 : decode cX3_givePair 14 = .ok (.istore 5, 2) := by decide +kernel
theorem dX3_givePair_16 : decode cX3_givePair 16 = .ok (.aload_n 0, 1) := by decide +kernel
theorem dX3_givePair_17 : decode cX3_givePair 17 = .ok (.iload 5, 2) := by decide +kernel
theorem dX3_givePair_19 : decode cX3_givePair 19 = .ok (.aload_n 1, 1) := by decide +kernel
theorem dX3_givePair_20 : decode cX3_givePair 20 = .ok (.iload_n 2, 1) := by decide +kernel
theorem dX3_givePair_21 : decode cX3_givePair 21 = .ok (.invokevirtual 93, 3) := by decide +kernel
theorem dX3_givePair_24 : decode cX3_givePair 24 = .ok (.ldc2_w 127, 3) := by decide +kernel
theorem dX3_givePair_27 : decode cX3_givePair 27 = .ok (.aload_n 1, 1) := by decide +kernel
theorem dX3_givePair_28 : decode cX3_givePair 28 = .ok (.iload_n 2, 1) := by decide +kernel
theorem dX3_givePair_29 : decode cX3_givePair 29 = .ok (.invokevirtual 67, 3) := by decide +kernel
theorem dX3_givePair_32 : decode cX3_givePair 32 = .ok (.lmul, 1) := by decide +kernel
theorem dX3_givePair_33 : decode cX3_givePair 33 = .ok (.aload_n 3, 1) := by decide +kernel
theorem dX3_givePair_34 : decode cX3_givePair 34 = .ok (.iload 4, 2) := by decide +kernel
theorem dX3_givePair_36 : decode cX3_givePair 36 = .ok (.invokevirtual 67, 3) := by decide +kernel
theorem dX3_givePair_39 : decode cX3_givePair 39 = .ok (.ladd, 1) := by decide +kernel
theorem dX3_givePair_40 : decode cX3_givePair 40 = .ok (.invokevirtual 129, 3) := by decide +kernel
theorem dX3_givePair_43 : decode cX3_givePair 43 = .ok (.ireturn, 1) := by decide +kernel
theorem dX3_giveMeet_0 : decode cX3_giveMeet 0 = .ok (.iconst 0, 1) := by decide +kernel
theorem dX3_giveMeet_1 : decode cX3_giveMeet 1 = .ok (.istore_n 3, 1) := by decide +kernel
theorem dX3_giveMeet_2 : decode cX3_giveMeet 2 = .ok (.iconst 0, 1) := by decide +kernel
theorem dX3_giveMeet_3 : decode cX3_giveMeet 3 = .ok (.istore 4, 2) := by decide +kernel
theorem dX3_giveMeet_5 : decode cX3_giveMeet 5 = .ok (.iload 4, 2) := by decide +kernel
theorem dX3_giveMeet_7 : decode cX3_giveMeet 7 = .ok (.aload_n 1, 1) := by decide +kernel
theorem dX3_giveMeet_8 : decode cX3_giveMeet 8 = .ok (.invokevirtual 61, 3) := by decide +kernel
theorem dX3_giveMeet_11 : decode cX3_giveMeet 11 = .ok (.if_icmp .ge 60, 3) := by decide +kernel
theorem dX3_giveMeet_14 : decode cX3_giveMeet 14 = .ok (.iload_n 3, 1) := by decide +kernel
theorem dX3_giveMeet_15 : decode cX3_giveMeet 15 = .ok (.aload_n 2, 1) := by decide +kernel
theorem dX3_giveMeet_16 : decode cX3_giveMeet 16 = .ok (.invokevirtual 61, 3) := by decide +kernel
theorem dX3_giveMeet_19 : decode cX3_giveMeet 19 = .ok (.if_icmp .ge 34, 3) := by decide +kernel
theorem dX3_giveMeet_22 : decode cX3_giveMeet 22 = .ok (.aload_n 2, 1) := by decide +kernel
theorem dX3_giveMeet_23 : decode cX3_giveMeet 23 = .ok (.iload_n 3, 1) := by decide +kernel
theorem dX3_giveMeet_24 : decode cX3_giveMeet 24 = .ok (.invokevirtual 89, 3) := by decide +kernel
theorem dX3_giveMeet_27 : decode cX3_giveMeet 27 = .ok (.aload_n 1, 1) := by decide +kernel
theorem dX3_giveMeet_28 : decode cX3_giveMeet 28 = .ok (.iload 4, 2) := by decide +kernel
theorem dX3_giveMeet_30 : decode cX3_giveMeet 30 = .ok (.invokevirtual 89, 3) := by decide +kernel
theorem dX3_giveMeet_33 : decode cX3_giveMeet 33 = .ok (.if_icmp .ge 20, 3) := by decide +kernel
theorem dX3_giveMeet_36 : decode cX3_giveMeet 36 = .ok (.aload_n 0, 1) := by decide +kernel
theorem dX3_giveMeet_37 : decode cX3_giveMeet 37 = .ok (.aload_n 2, 1) := by decide +kernel
theorem dX3_giveMeet_38 : decode cX3_giveMeet 38 = .ok (.iload_n 3, 1) := by decide +kernel
theorem dX3_giveMeet_39 : decode cX3_giveMeet 39 = .ok (.invokestatic 132, 3) := by decide +kernel
theorem dX3_giveMeet_42 : decode cX3_giveMeet 42 = .ok (.ifCond .ne 5, 3) := by decide +kernel
theorem dX3_giveMeet_45 : decode cX3_giveMeet 45 = .ok (.iconst 0, 1) := by decide +kernel
theorem dX3_giveMeet_46 : decode cX3_giveMeet 46 = .ok (.ireturn, 1) := by decide +kernel
theorem dX3_giveMeet_47 : decode cX3_giveMeet 47 = .ok (.iinc 3 1, 3) := by decide +kernel
theorem dX3_giveMeet_50 : decode cX3_giveMeet 50 = .ok (.goto (-36), 3) := by decide +kernel
theorem dX3_giveMeet_53 : decode cX3_giveMeet 53 = .ok (.aload_n 0, 1) := by decide +kernel
theorem dX3_giveMeet_54 : decode cX3_giveMeet 54 = .ok (.aload_n 1, 1) := by decide +kernel
theorem dX3_giveMeet_55 : decode cX3_giveMeet 55 = .ok (.iload 4, 2) := by decide +kernel
theorem dX3_giveMeet_57 : decode cX3_giveMeet 57 = .ok (.invokestatic 132, 3) := by decide +kernel
theorem dX3_giveMeet_60 : decode cX3_giveMeet 60 = .ok (.ifCond .ne 5, 3) := by decide +kernel
theorem dX3_giveMeet_63 : decode cX3_giveMeet 63 = .ok (.iconst 0, 1) := by decide +kernel
theorem dX3_giveMeet_64 : decode cX3_giveMeet 64 = .ok (.ireturn, 1) := by decide +kernel
theorem dX3_giveMeet_65 : decode cX3_giveMeet 65 = .ok (.iinc 4 1, 3) := by decide +kernel
theorem dX3_giveMeet_68 : decode cX3_giveMeet 68 = .ok (.goto (-63), 3) := by decide +kernel
theorem dX3_giveMeet_71 : decode cX3_giveMeet 71 = .ok (.iload_n 3, 1) := by decide +kernel
theorem dX3_giveMeet_72 : decode cX3_giveMeet 72 = .ok (.istore 4, 2) := by decide +kernel
theorem dX3_giveMeet_74 : decode cX3_giveMeet 74 = .ok (.iload 4, 2) := by decide +kernel
theorem dX3_giveMeet_76 : decode cX3_giveMeet 76 = .ok (.aload_n 2, 1) := by decide +kernel
theorem dX3_giveMeet_77 : decode cX3_giveMeet 77 = .ok (.invokevirtual 61, 3) := by decide +kernel
theorem dX3_giveMeet_80 : decode cX3_giveMeet 80 = .ok (.if_icmp .ge 21, 3) := by decide +kernel
theorem dX3_giveMeet_83 : decode cX3_giveMeet 83 = .ok (.aload_n 0, 1) := by decide +kernel
theorem dX3_giveMeet_84 : decode cX3_giveMeet 84 = .ok (.aload_n 2, 1) := by decide +kernel
theorem dX3_giveMeet_85 : decode cX3_giveMeet 85 = .ok (.iload 4, 2) := by decide +kernel
theorem dX3_giveMeet_87 : decode cX3_giveMeet 87 = .ok (.invokestatic 132, 3) := by decide +kernel
theorem dX3_giveMeet_90 : decode cX3_giveMeet 90 = .ok (.ifCond .ne 5, 3) := by decide +kernel
theorem dX3_giveMeet_93 : decode cX3_giveMeet 93 = .ok (.iconst 0, 1) := by decide +kernel
theorem dX3_giveMeet_94 : decode cX3_giveMeet 94 = .ok (.ireturn, 1) := by decide +kernel
theorem dX3_giveMeet_95 : decode cX3_giveMeet 95 = .ok (.iinc 4 1, 3) := by decide +kernel
theorem dX3_giveMeet_98 : decode cX3_giveMeet 98 = .ok (.goto (-24), 3) := by decide +kernel
theorem dX3_giveMeet_101 : decode cX3_giveMeet 101 = .ok (.iconst 1, 1) := by decide +kernel
theorem dX3_giveMeet_102 : decode cX3_giveMeet 102 = .ok (.ireturn, 1) := by decide +kernel
theorem dX3_giveAgain_0 : decode cX3_giveAgain 0 = .ok (.aload_n 0, 1) := by decide +kernel
theorem dX3_giveAgain_1 : decode cX3_giveAgain 1 = .ok (.aload_n 1, 1) := by decide +kernel
theorem dX3_giveAgain_2 : decode cX3_giveAgain 2 = .ok (.iload_n 2, 1) := by decide +kernel
theorem dX3_giveAgain_3 : decode cX3_giveAgain 3 = .ok (.invokevirtual 89, 3) := by decide +kernel
theorem dX3_giveAgain_6 : decode cX3_giveAgain 6 = .ok (.aload_n 1, 1) := by decide +kernel
theorem dX3_giveAgain_7 : decode cX3_giveAgain 7 = .ok (.iload_n 2, 1) := by decide +kernel
theorem dX3_giveAgain_8 : decode cX3_giveAgain 8 = .ok (.invokevirtual 93, 3) := by decide +kernel
theorem dX3_giveAgain_11 : decode cX3_giveAgain 11 = .ok (.aload_n 1, 1) := by decide +kernel
theorem dX3_giveAgain_12 : decode cX3_giveAgain 12 = .ok (.iload_n 2, 1) := by decide +kernel
theorem dX3_giveAgain_13 : decode cX3_giveAgain 13 = .ok (.invokevirtual 67, 3) := by decide +kernel
theorem dX3_giveAgain_16 : decode cX3_giveAgain 16 = .ok (.invokevirtual 96, 3) := by decide +kernel
theorem dX3_giveAgain_19 : decode cX3_giveAgain 19 = .ok (.ireturn, 1) := by decide +kernel
theorem dX3_giveFalls_0 : decode cX3_giveFalls 0 = .ok (.iconst 0, 1) := by decide +kernel
theorem dX3_giveFalls_1 : decode cX3_giveFalls 1 = .ok (.istore_n 3, 1) := by decide +kernel
theorem dX3_giveFalls_2 : decode cX3_giveFalls 2 = .ok (.iload_n 3, 1) := by decide +kernel
theorem dX3_giveFalls_3 : decode cX3_giveFalls 3 = .ok (.aload_n 1, 1) := by decide +kernel
theorem dX3_giveFalls_4 : decode cX3_giveFalls 4 = .ok (.invokevirtual 61, 3) := by decide +kernel
theorem dX3_giveFalls_7 : decode cX3_giveFalls 7 = .ok (.if_icmp .ge 85, 3) := by decide +kernel
theorem dX3_giveFalls_10 : decode cX3_giveFalls 10 = .ok (.aload_n 1, 1) := by decide +kernel
theorem dX3_giveFalls_11 : decode cX3_giveFalls 11 = .ok (.iload_n 3, 1) := by decide +kernel
theorem dX3_giveFalls_12 : decode cX3_giveFalls 12 = .ok (.invokevirtual 135, 3) := by decide +kernel
theorem dX3_giveFalls_15 : decode cX3_giveFalls 15 = .ok (.istore 4, 2) := by decide +kernel
theorem dX3_giveFalls_17 : decode cX3_giveFalls 17 = .ok (.iload 4, 2) := by decide +kernel
theorem dX3_giveFalls_19 : decode cX3_giveFalls 19 = .ok (.iconst (-1), 1) := by decide +kernel
theorem dX3_giveFalls_20 : decode cX3_giveFalls 20 = .ok (.if_icmp .eq 66, 3) := by decide +kernel
theorem dX3_giveFalls_23 : decode cX3_giveFalls 23 = .ok (.aload_n 1, 1) := by decide +kernel
theorem dX3_giveFalls_24 : decode cX3_giveFalls 24 = .ok (.iload 4, 2) := by decide +kernel
theorem dX3_giveFalls_26 : decode cX3_giveFalls 26 = .ok (.invokevirtual 67, 3) := by decide +kernel
theorem dX3_giveFalls_29 : decode cX3_giveFalls 29 = .ok (.aload_n 1, 1) := by decide +kernel
theorem dX3_giveFalls_30 : decode cX3_giveFalls 30 = .ok (.iload_n 3, 1) := by decide +kernel
theorem dX3_giveFalls_31 : decode cX3_giveFalls 31 = .ok (.invokevirtual 67, 3) := by decide +kernel
theorem dX3_giveFalls_34 : decode cX3_giveFalls 34 = .ok (.lcmp, 1) := by decide +kernel
theorem dX3_giveFalls_35 : decode cX3_giveFalls 35 = .ok (.ifCond .ge 51, 3) := by decide +kernel
theorem dX3_giveFalls_38 : decode cX3_giveFalls 38 = .ok (.aload_n 1, 1) := by decide +kernel
theorem dX3_giveFalls_39 : decode cX3_giveFalls 39 = .ok (.iload 4, 2) := by decide +kernel
theorem dX3_giveFalls_41 : decode cX3_giveFalls 41 = .ok (.invokevirtual 89, 3) := by decide +kernel
theorem dX3_giveFalls_44 : decode cX3_giveFalls 44 = .ok (.aload_n 1, 1) := by decide +kernel
theorem dX3_giveFalls_45 : decode cX3_giveFalls 45 = .ok (.iload_n 3, 1) := by decide +kernel
theorem dX3_giveFalls_46 : decode cX3_giveFalls 46 = .ok (.invokevirtual 89, 3) := by decide +kernel
theorem dX3_giveFalls_49 : decode cX3_giveFalls 49 = .ok (.isub, 1) := by decide +kernel
theorem dX3_giveFalls_50 : decode cX3_giveFalls 50 = .ok (.iload_n 2, 1) := by decide +kernel
theorem dX3_giveFalls_51 : decode cX3_giveFalls 51 = .ok (.if_icmp .gt 35, 3) := by decide +kernel
theorem dX3_giveFalls_54 : decode cX3_giveFalls 54 = .ok (.aload_n 0, 1) := by decide +kernel
theorem dX3_giveFalls_55 : decode cX3_giveFalls 55 = .ok (.aload_n 1, 1) := by decide +kernel
theorem dX3_giveFalls_56 : decode cX3_giveFalls 56 = .ok (.iload 4, 2) := by decide +kernel
theorem dX3_giveFalls_58 : decode cX3_giveFalls 58 = .ok (.invokevirtual 89, 3) := by decide +kernel
theorem dX3_giveFalls_61 : decode cX3_giveFalls 61 = .ok (.aload_n 1, 1) := by decide +kernel
theorem dX3_giveFalls_62 : decode cX3_giveFalls 62 = .ok (.iload_n 3, 1) := by decide +kernel
theorem dX3_giveFalls_63 : decode cX3_giveFalls 63 = .ok (.invokevirtual 93, 3) := by decide +kernel
theorem dX3_giveFalls_66 : decode cX3_giveFalls 66 = .ok (.aload_n 1, 1) := by decide +kernel
theorem dX3_giveFalls_67 : decode cX3_giveFalls 67 = .ok (.iload_n 3, 1) := by decide +kernel
theorem dX3_giveFalls_68 : decode cX3_giveFalls 68 = .ok (.invokevirtual 67, 3) := by decide +kernel
theorem dX3_giveFalls_71 : decode cX3_giveFalls 71 = .ok (.aload_n 1, 1) := by decide +kernel
theorem dX3_giveFalls_72 : decode cX3_giveFalls 72 = .ok (.iload 4, 2) := by decide +kernel
theorem dX3_giveFalls_74 : decode cX3_giveFalls 74 = .ok (.invokevirtual 67, 3) := by decide +kernel
theorem dX3_giveFalls_77 : decode cX3_giveFalls 77 = .ok (.lsub, 1) := by decide +kernel
theorem dX3_giveFalls_78 : decode cX3_giveFalls 78 = .ok (.invokevirtual 129, 3) := by decide +kernel
theorem dX3_giveFalls_81 : decode cX3_giveFalls 81 = .ok (.ifCond .ne 5, 3) := by decide +kernel
theorem dX3_giveFalls_84 : decode cX3_giveFalls 84 = .ok (.iconst 0, 1) := by decide +kernel
theorem dX3_giveFalls_85 : decode cX3_giveFalls 85 = .ok (.ireturn, 1) := by decide +kernel
theorem dX3_giveFalls_86 : decode cX3_giveFalls 86 = .ok (.iinc 3 1, 3) := by decide +kernel
theorem dX3_giveFalls_89 : decode cX3_giveFalls 89 = .ok (.goto (-87), 3) := by decide +kernel
theorem dX3_giveFalls_92 : decode cX3_giveFalls 92 = .ok (.iconst 1, 1) := by decide +kernel
theorem dX3_giveFalls_93 : decode cX3_giveFalls 93 = .ok (.ireturn, 1) := by decide +kernel
theorem dX3_giveFirst_0 : decode cX3_giveFirst 0 = .ok (.iconst 0, 1) := by decide +kernel
theorem dX3_giveFirst_1 : decode cX3_giveFirst 1 = .ok (.istore 4, 2) := by decide +kernel
theorem dX3_giveFirst_3 : decode cX3_giveFirst 3 = .ok (.iload 4, 2) := by decide +kernel
theorem dX3_giveFirst_5 : decode cX3_giveFirst 5 = .ok (.aload_n 0, 1) := by decide +kernel
theorem dX3_giveFirst_6 : decode cX3_giveFirst 6 = .ok (.getfield 18, 3) := by decide +kernel
theorem dX3_giveFirst_9 : decode cX3_giveFirst 9 = .ok (.arraylength, 1) := by decide +kernel
theorem dX3_giveFirst_10 : decode cX3_giveFirst 10 = .ok (.if_icmp .ge 17, 3) := by decide +kernel
