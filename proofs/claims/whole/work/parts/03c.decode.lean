/-! decode rows (claim/NAMES.whole.lean.txt) -/
theorem dX7_join_17 : decode cX7_join 17 = .ok (.iconst 0, 1) := by decide +kernel
theorem dX7_join_18 : decode cX7_join 18 = .ok (.sipush 1000, 3) := by decide +kernel
theorem dX7_join_21 : decode cX7_join 21 = .ok (.invokestatic 55, 3) := by decide +kernel
theorem dX7_join_24 : decode cX7_join 24 = .ok (.ifCond .ne 5, 3) := by decide +kernel
theorem dX7_join_27 : decode cX7_join 27 = .ok (.iconst (-1), 1) := by decide +kernel
theorem dX7_join_28 : decode cX7_join 28 = .ok (.ireturn, 1) := by decide +kernel
theorem dX7_join_29 : decode cX7_join 29 = .ok (.aload_n 0, 1) := by decide +kernel
theorem dX7_join_30 : decode cX7_join 30 = .ok (.iconst 5, 1) := by decide +kernel
theorem dX7_join_31 : decode cX7_join 31 = .ok (.iload_n 1, 1) := by decide +kernel
theorem dX7_join_32 : decode cX7_join 32 = .ok (.iload_n 2, 1) := by decide +kernel
theorem dX7_join_33 : decode cX7_join 33 = .ok (.iload_n 3, 1) := by decide +kernel
theorem dX7_join_34 : decode cX7_join 34 = .ok (.iconst 0, 1) := by decide +kernel
theorem dX7_join_35 : decode cX7_join 35 = .ok (.invokevirtual 80, 3) := by decide +kernel
theorem dX7_join_38 : decode cX7_join 38 = .ok (.ireturn, 1) := by decide +kernel
theorem dX7_meet_0 : decode cX7_meet 0 = .ok (.aload_n 0, 1) := by decide +kernel
theorem dX7_meet_1 : decode cX7_meet 1 = .ok (.iload_n 1, 1) := by decide +kernel
theorem dX7_meet_2 : decode cX7_meet 2 = .ok (.invokevirtual 84, 3) := by decide +kernel
theorem dX7_meet_5 : decode cX7_meet 5 = .ok (.ifCond .eq 24, 3) := by decide +kernel
theorem dX7_meet_8 : decode cX7_meet 8 = .ok (.aload_n 0, 1) := by decide +kernel
theorem dX7_meet_9 : decode cX7_meet 9 = .ok (.iload_n 2, 1) := by decide +kernel
theorem dX7_meet_10 : decode cX7_meet 10 = .ok (.invokevirtual 84, 3) := by decide +kernel
theorem dX7_meet_13 : decode cX7_meet 13 = .ok (.ifCond .eq 16, 3) := by decide +kernel
theorem dX7_meet_16 : decode cX7_meet 16 = .ok (.aload_n 0, 1) := by decide +kernel
theorem dX7_meet_17 : decode cX7_meet 17 = .ok (.bipush 6, 2) := by decide +kernel
theorem dX7_meet_19 : decode cX7_meet 19 = .ok (.iload_n 1, 1) := by decide +kernel
theorem dX7_meet_20 : decode cX7_meet 20 = .ok (.iload_n 2, 1) := by decide +kernel
theorem dX7_meet_21 : decode cX7_meet 21 = .ok (.iconst 0, 1) := by decide +kernel
theorem dX7_meet_22 : decode cX7_meet 22 = .ok (.iconst 0, 1) := by decide +kernel
theorem dX7_meet_23 : decode cX7_meet 23 = .ok (.invokevirtual 80, 3) := by decide +kernel
theorem dX7_meet_26 : decode cX7_meet 26 = .ok (.goto 4, 3) := by decide +kernel
theorem dX7_meet_29 : decode cX7_meet 29 = .ok (.iconst (-1), 1) := by decide +kernel
theorem dX7_meet_30 : decode cX7_meet 30 = .ok (.ireturn, 1) := by decide +kernel
theorem dX7_falls_0 : decode cX7_falls 0 = .ok (.aload_n 0, 1) := by decide +kernel
theorem dX7_falls_1 : decode cX7_falls 1 = .ok (.iload_n 1, 1) := by decide +kernel
theorem dX7_falls_2 : decode cX7_falls 2 = .ok (.invokevirtual 84, 3) := by decide +kernel
theorem dX7_falls_5 : decode cX7_falls 5 = .ok (.ifCond .eq 27, 3) := by decide +kernel
theorem dX7_falls_8 : decode cX7_falls 8 = .ok (.iload_n 2, 1) := by decide +kernel
theorem dX7_falls_9 : decode cX7_falls 9 = .ok (.iconst 0, 1) := by decide +kernel
theorem dX7_falls_10 : decode cX7_falls 10 = .ok (.sipush 1000, 3) := by decide +kernel
theorem dX7_falls_13 : decode cX7_falls 13 = .ok (.invokestatic 55, 3) := by decide +kernel
theorem dX7_falls_16 : decode cX7_falls 16 = .ok (.ifCond .eq 16, 3) := by decide +kernel
theorem dX7_falls_19 : decode cX7_falls 19 = .ok (.aload_n 0, 1) := by decide +kernel
theorem dX7_falls_20 : decode cX7_falls 20 = .ok (.bipush 7, 2) := by decide +kernel
theorem dX7_falls_22 : decode cX7_falls 22 = .ok (.iload_n 1, 1) := by decide +kernel
theorem dX7_falls_23 : decode cX7_falls 23 = .ok (.iload_n 1, 1) := by decide +kernel
theorem dX7_falls_24 : decode cX7_falls 24 = .ok (.iload_n 2, 1) := by decide +kernel
theorem dX7_falls_25 : decode cX7_falls 25 = .ok (.iconst 0, 1) := by decide +kernel
theorem dX7_falls_26 : decode cX7_falls 26 = .ok (.invokevirtual 80, 3) := by decide +kernel
theorem dX7_falls_29 : decode cX7_falls 29 = .ok (.goto 4, 3) := by decide +kernel
theorem dX7_falls_32 : decode cX7_falls 32 = .ok (.iconst (-1), 1) := by decide +kernel
theorem dX7_falls_33 : decode cX7_falls 33 = .ok (.ireturn, 1) := by decide +kernel
theorem dX7_first_0 : decode cX7_first 0 = .ok (.aload_n 0, 1) := by decide +kernel
theorem dX7_first_1 : decode cX7_first 1 = .ok (.iload_n 1, 1) := by decide +kernel
theorem dX7_first_2 : decode cX7_first 2 = .ok (.invokevirtual 84, 3) := by decide +kernel
theorem dX7_first_5 : decode cX7_first 5 = .ok (.ifCond .eq 27, 3) := by decide +kernel
theorem dX7_first_8 : decode cX7_first 8 = .ok (.iload_n 2, 1) := by decide +kernel
theorem dX7_first_9 : decode cX7_first 9 = .ok (.iconst 0, 1) := by decide +kernel
theorem dX7_first_10 : decode cX7_first 10 = .ok (.sipush 200, 3) := by decide +kernel
theorem dX7_first_13 : decode cX7_first 13 = .ok (.invokestatic 55, 3) := by decide +kernel
theorem dX7_first_16 : decode cX7_first 16 = .ok (.ifCond .eq 16, 3) := by decide +kernel
theorem dX7_first_19 : decode cX7_first 19 = .ok (.aload_n 0, 1) := by decide +kernel
theorem dX7_first_20 : decode cX7_first 20 = .ok (.bipush 8, 2) := by decide +kernel
theorem dX7_first_22 : decode cX7_first 22 = .ok (.iload_n 1, 1) := by decide +kernel
theorem dX7_first_23 : decode cX7_first 23 = .ok (.iload_n 1, 1) := by decide +kernel
theorem dX7_first_24 : decode cX7_first 24 = .ok (.iload_n 2, 1) := by decide +kernel
theorem dX7_first_25 : decode cX7_first 25 = .ok (.iconst 0, 1) := by decide +kernel
theorem dX7_first_26 : decode cX7_first 26 = .ok (.invokevirtual 80, 3) := by decide +kernel
theorem dX7_first_29 : decode cX7_first 29 = .ok (.goto 4, 3) := by decide +kernel
theorem dX7_first_32 : decode cX7_first 32 = .ok (.iconst (-1), 1) := by decide +kernel
theorem dX7_first_33 : decode cX7_first 33 = .ok (.ireturn, 1) := by decide +kernel
theorem dX7_drop_0 : decode cX7_drop 0 = .ok (.aload_n 0, 1) := by decide +kernel
theorem dX7_drop_1 : decode cX7_drop 1 = .ok (.aload_n 0, 1) := by decide +kernel
theorem dX7_drop_2 : decode cX7_drop 2 = .ok (.getfield 43, 3) := by decide +kernel
theorem dX7_drop_5 : decode cX7_drop 5 = .ok (.iconst 1, 1) := by decide +kernel
theorem dX7_drop_6 : decode cX7_drop 6 = .ok (.isub, 1) := by decide +kernel
theorem dX7_drop_7 : decode cX7_drop 7 = .ok (.invokevirtual 88, 3) := by decide +kernel
theorem dX7_drop_10 : decode cX7_drop 10 = .ok (.astore_n 1, 1) := by decide +kernel
theorem dX7_drop_11 : decode cX7_drop 11 = .ok (.aload_n 1, 1) := by decide +kernel
theorem dX7_drop_12 : decode cX7_drop 12 = .ok (.ifnonnull 6, 3) := by decide +kernel
theorem dX7_drop_15 : decode cX7_drop 15 = .ok (.bipush (-3), 2) := by decide +kernel
theorem dX7_drop_17 : decode cX7_drop 17 = .ok (.ireturn, 1) := by decide +kernel
theorem dX7_drop_18 : decode cX7_drop 18 = .ok (.aload_n 1, 1) := by decide +kernel
theorem dX7_drop_19 : decode cX7_drop 19 = .ok (.getfield 92, 3) := by decide +kernel
theorem dX7_drop_22 : decode cX7_drop 22 = .ok (.invokevirtual 96, 3) := by decide +kernel
theorem dX7_drop_25 : decode cX7_drop 25 = .ok (.aload_n 0, 1) := by decide +kernel
theorem dX7_drop_26 : decode cX7_drop 26 = .ok (.dup, 1) := by decide +kernel
theorem dX7_drop_27 : decode cX7_drop 27 = .ok (.getfield 43, 3) := by decide +kernel
theorem dX7_drop_30 : decode cX7_drop 30 = .ok (.iconst 1, 1) := by decide +kernel
theorem dX7_drop_31 : decode cX7_drop 31 = .ok (.isub, 1) := by decide +kernel
theorem dX7_drop_32 : decode cX7_drop 32 = .ok (.putfield 43, 3) := by decide +kernel
theorem dX7_drop_35 : decode cX7_drop 35 = .ok (.aload_n 0, 1) := by decide +kernel
theorem dX7_drop_36 : decode cX7_drop 36 = .ok (.invokevirtual 99, 3) := by decide +kernel
theorem dX7_drop_39 : decode cX7_drop 39 = .ok (.aload_n 0, 1) := by decide +kernel
theorem dX7_drop_40 : decode cX7_drop 40 = .ok (.getfield 43, 3) := by decide +kernel
theorem dX7_drop_43 : decode cX7_drop 43 = .ok (.ireturn, 1) := by decide +kernel
theorem dX7_judge_0 : decode cX7_judge 0 = .ok (.aload_n 0, 1) := by decide +kernel
theorem dX7_judge_1 : decode cX7_judge 1 = .ok (.getfield 43, 3) := by decide +kernel
theorem dX7_judge_4 : decode cX7_judge 4 = .ok (.ifCond .ne 6, 3) := by decide +kernel
theorem dX7_judge_7 : decode cX7_judge 7 = .ok (.bipush (-3), 2) := by decide +kernel
theorem dX7_judge_9 : decode cX7_judge 9 = .ok (.ireturn, 1) := by decide +kernel
theorem dX7_judge_10 : decode cX7_judge 10 = .ok (.aload_n 0, 1) := by decide +kernel
theorem dX7_judge_11 : decode cX7_judge 11 = .ok (.getfield 47, 3) := by decide +kernel
theorem dX7_judge_14 : decode cX7_judge 14 = .ok (.sipush 3000, 3) := by decide +kernel
theorem dX7_judge_17 : decode cX7_judge 17 = .ok (.if_icmp .lt 6, 3) := by decide +kernel
theorem dX7_judge_20 : decode cX7_judge 20 = .ok (.bipush (-5), 2) := by decide +kernel
theorem dX7_judge_22 : decode cX7_judge 22 = .ok (.ireturn, 1) := by decide +kernel
theorem dX7_judge_23 : decode cX7_judge 23 = .ok (.iconst 0, 1) := by decide +kernel
theorem dX7_judge_24 : decode cX7_judge 24 = .ok (.istore_n 1, 1) := by decide +kernel
theorem dX7_judge_25 : decode cX7_judge 25 = .ok (.iconst 0, 1) := by decide +kernel
theorem dX7_judge_26 : decode cX7_judge 26 = .ok (.istore_n 2, 1) := by decide +kernel
theorem dX7_judge_27 : decode cX7_judge 27 = .ok (.iload_n 2, 1) := by decide +kernel
theorem dX7_judge_28 : decode cX7_judge 28 = .ok (.aload_n 0, 1) := by decide +kernel
theorem dX7_judge_29 : decode cX7_judge 29 = .ok (.getfield 43, 3) := by decide +kernel
theorem dX7_judge_32 : decode cX7_judge 32 = .ok (.if_icmp .ge 30, 3) := by decide +kernel
theorem dX7_judge_35 : decode cX7_judge 35 = .ok (.aload_n 0, 1) := by decide +kernel
theorem dX7_judge_36 : decode cX7_judge 36 = .ok (.iload_n 2, 1) := by decide +kernel
theorem dX7_judge_37 : decode cX7_judge 37 = .ok (.invokevirtual 88, 3) := by decide +kernel
theorem dX7_judge_40 : decode cX7_judge 40 = .ok (.astore_n 3, 1) := by decide +kernel
theorem dX7_judge_41 : decode cX7_judge 41 = .ok (.aload_n 3, 1) := by decide +kernel
theorem dX7_judge_42 : decode cX7_judge 42 = .ok (.ifnull 14, 3) := by decide +kernel
theorem dX7_judge_45 : decode cX7_judge 45 = .ok (.aload_n 0, 1) := by decide +kernel
theorem dX7_judge_46 : decode cX7_judge 46 = .ok (.aload_n 3, 1) := by decide +kernel
theorem dX7_judge_47 : decode cX7_judge 47 = .ok (.invokevirtual 102, 3) := by decide +kernel
theorem dX7_judge_50 : decode cX7_judge 50 = .ok (.ifCond .eq 6, 3) := by decide +kernel
theorem dX7_judge_53 : decode cX7_judge 53 = .ok (.iinc 1 1, 3) := by decide +kernel
theorem dX7_judge_56 : decode cX7_judge 56 = .ok (.iinc 2 1, 3) := by decide +kernel
theorem dX7_judge_59 : decode cX7_judge 59 = .ok (.goto (-32), 3) := by decide +kernel
theorem dX7_judge_62 : decode cX7_judge 62 = .ok (.aload_n 0, 1) := by decide +kernel
theorem dX7_judge_63 : decode cX7_judge 63 = .ok (.iconst 1, 1) := by decide +kernel
theorem dX7_judge_64 : decode cX7_judge 64 = .ok (.putfield 50, 3) := by decide +kernel
theorem dX7_judge_67 : decode cX7_judge 67 = .ok (.aload_n 0, 1) := by decide +kernel
theorem dX7_judge_68 : decode cX7_judge 68 = .ok (.getfield 39, 3) := by decide +kernel
theorem dX7_judge_71 : decode cX7_judge 71 = .ok (.invokevirtual 106, 3) := by decide +kernel
theorem dX7_judge_74 : decode cX7_judge 74 = .ok (.iload_n 1, 1) := by decide +kernel
theorem dX7_judge_75 : decode cX7_judge 75 = .ok (.ireturn, 1) := by decide +kernel
theorem dX7_rows_0 : decode cX7_rows 0 = .ok (.aload_n 0, 1) := by decide +kernel
theorem dX7_rows_1 : decode cX7_rows 1 = .ok (.iload_n 1, 1) := by decide +kernel
theorem dX7_rows_2 : decode cX7_rows 2 = .ok (.invokevirtual 88, 3) := by decide +kernel
theorem dX7_rows_5 : decode cX7_rows 5 = .ok (.astore_n 2, 1) := by decide +kernel
theorem dX7_rows_6 : decode cX7_rows 6 = .ok (.aload_n 0, 1) := by decide +kernel
theorem dX7_rows_7 : decode cX7_rows 7 = .ok (.aload_n 2, 1) := by decide +kernel
theorem dX7_rows_8 : decode cX7_rows 8 = .ok (.invokevirtual 109, 3) := by decide +kernel
theorem dX7_rows_11 : decode cX7_rows 11 = .ok (.istore_n 3, 1) := by decide +kernel
theorem dX7_rows_12 : decode cX7_rows 12 = .ok (.aload_n 2, 1) := by decide +kernel
theorem dX7_rows_13 : decode cX7_rows 13 = .ok (.ifnull 7, 3) := by decide +kernel
theorem dX7_rows_16 : decode cX7_rows 16 = .ok (.iload_n 3, 1) := by decide +kernel
theorem dX7_rows_17 : decode cX7_rows 17 = .ok (.ifCond .eq 7, 3) := by decide +kernel
theorem dX7_rows_20 : decode cX7_rows 20 = .ok (.iload_n 3, 1) := by decide +kernel
theorem dX7_rows_21 : decode cX7_rows 21 = .ok (.goto 10, 3) := by decide +kernel
theorem dX7_rows_24 : decode cX7_rows 24 = .ok (.aload_n 2, 1) := by decide +kernel
theorem dX7_rows_25 : decode cX7_rows 25 = .ok (.getfield 113, 3) := by decide +kernel
theorem dX7_rows_28 : decode cX7_rows 28 = .ok (.invokevirtual 116, 3) := by decide +kernel
theorem dX7_rows_31 : decode cX7_rows 31 = .ok (.ireturn, 1) := by decide +kernel
theorem dX7_told_0 : decode cX7_told 0 = .ok (.aload_n 0, 1) := by decide +kernel
theorem dX7_told_1 : decode cX7_told 1 = .ok (.iload_n 1, 1) := by decide +kernel
theorem dX7_told_2 : decode cX7_told 2 = .ok (.invokevirtual 88, 3) := by decide +kernel
theorem dX7_told_5 : decode cX7_told 5 = .ok (.astore 4, 2) := by decide +kernel
theorem dX7_told_7 : decode cX7_told 7 = .ok (.aload 4, 2) := by decide +kernel
theorem dX7_told_9 : decode cX7_told 9 = .ok (.ifnull 12, 3) := by decide +kernel
theorem dX7_told_12 : decode cX7_told 12 = .ok (.iload_n 3, 1) := by decide +kernel
theorem dX7_told_13 : decode cX7_told 13 = .ok (.iconst 0, 1) := by decide +kernel
theorem dX7_told_14 : decode cX7_told 14 = .ok (.iconst 1, 1) := by decide +kernel
theorem dX7_told_15 : decode cX7_told 15 = .ok (.invokestatic 55, 3) := by decide +kernel
theorem dX7_told_18 : decode cX7_told 18 = .ok (.ifCond .ne 5, 3) := by decide +kernel
theorem dX7_told_21 : decode cX7_told 21 = .ok (.iconst (-1), 1) := by decide +kernel
theorem dX7_told_22 : decode cX7_told 22 = .ok (.ireturn, 1) := by decide +kernel
theorem dX7_told_23 : decode cX7_told 23 = .ok (.aload_n 0, 1) := by decide +kernel
theorem dX7_told_24 : decode cX7_told 24 = .ok (.aload 4, 2) := by decide +kernel
theorem dX7_told_26 : decode cX7_told 26 = .ok (.invokevirtual 109, 3) := by decide +kernel
theorem dX7_told_29 : decode cX7_told 29 = .ok (.istore 5, 2) := by decide +kernel
theorem dX7_told_31 : decode cX7_told 31 = .ok (.iload 5, 2) := by decide +kernel
theorem dX7_told_33 : decode cX7_told 33 = .ok (.ifCond .eq 6, 3) := by decide +kernel
theorem dX7_told_36 : decode cX7_told 36 = .ok (.iload 5, 2) := by decide +kernel
theorem dX7_told_38 : decode cX7_told 38 = .ok (.ireturn, 1) := by decide +kernel
theorem dX7_told_39 : decode cX7_told 39 = .ok (.iload_n 2, 1) := by decide +kernel
theorem dX7_told_40 : decode cX7_told 40 = .ok (.iconst 0, 1) := by decide +kernel
theorem dX7_told_41 : decode cX7_told 41 = .ok (.aload 4, 2) := by decide +kernel
theorem dX7_told_43 : decode cX7_told 43 = .ok (.getfield 113, 3) := by decide +kernel
theorem dX7_told_46 : decode cX7_told 46 = .ok (.invokevirtual 116, 3) := by decide +kernel
theorem dX7_told_49 : decode cX7_told 49 = .ok (.iconst 1, 1) := by decide +kernel
theorem dX7_told_50 : decode cX7_told 50 = .ok (.isub, 1) := by decide +kernel
theorem dX7_told_51 : decode cX7_told 51 = .ok (.invokestatic 55, 3) := by decide +kernel
theorem dX7_told_54 : decode cX7_told 54 = .ok (.ifCond .ne 6, 3) := by decide +kernel
theorem dX7_told_57 : decode cX7_told 57 = .ok (.bipush (-4), 2) := by decide +kernel
theorem dX7_told_59 : decode cX7_told 59 = .ok (.ireturn, 1) := by decide +kernel
theorem dX7_told_60 : decode cX7_told 60 = .ok (.iload_n 3, 1) := by decide +kernel
theorem dX7_told_61 : decode cX7_told 61 = .ok (.ifCond .ne 15, 3) := by decide +kernel
theorem dX7_told_64 : decode cX7_told 64 = .ok (.aload 4, 2) := by decide +kernel
theorem dX7_told_66 : decode cX7_told 66 = .ok (.getfield 113, 3) := by decide +kernel
theorem dX7_told_69 : decode cX7_told 69 = .ok (.iload_n 2, 1) := by decide +kernel
theorem dX7_told_70 : decode cX7_told 70 = .ok (.invokevirtual 117, 3) := by decide +kernel
theorem dX7_told_73 : decode cX7_told 73 = .ok (.goto 12, 3) := by decide +kernel
theorem dX7_told_76 : decode cX7_told 76 = .ok (.aload 4, 2) := by decide +kernel
theorem dX7_told_78 : decode cX7_told 78 = .ok (.getfield 113, 3) := by decide +kernel
theorem dX7_told_81 : decode cX7_told 81 = .ok (.iload_n 2, 1) := by decide +kernel
theorem dX7_told_82 : decode cX7_told 82 = .ok (.invokevirtual 121, 3) := by decide +kernel
theorem dX7_told_85 : decode cX7_told 85 = .ok (.ireturn, 1) := by decide +kernel
theorem dX7_value_0 : decode cX7_value 0 = .ok (.aload_n 0, 1) := by decide +kernel
theorem dX7_value_1 : decode cX7_value 1 = .ok (.iload_n 1, 1) := by decide +kernel
theorem dX7_value_2 : decode cX7_value 2 = .ok (.invokevirtual 88, 3) := by decide +kernel
theorem dX7_value_5 : decode cX7_value 5 = .ok (.astore_n 3, 1) := by decide +kernel
theorem dX7_value_6 : decode cX7_value 6 = .ok (.aload_n 3, 1) := by decide +kernel
theorem dX7_value_7 : decode cX7_value 7 = .ok (.ifnull 11, 3) := by decide +kernel
theorem dX7_value_10 : decode cX7_value 10 = .ok (.aload_n 0, 1) := by decide +kernel
theorem dX7_value_11 : decode cX7_value 11 = .ok (.aload_n 3, 1) := by decide +kernel
theorem dX7_value_12 : decode cX7_value 12 = .ok (.invokevirtual 109, 3) := by decide +kernel
theorem dX7_value_15 : decode cX7_value 15 = .ok (.ifCond .eq 7, 3) := by decide +kernel
theorem dX7_value_18 : decode cX7_value 18 = .ok (.lconst 0, 1) := by decide +kernel
theorem dX7_value_19 : decode cX7_value 19 = .ok (.goto 11, 3) := by decide +kernel
theorem dX7_value_22 : decode cX7_value 22 = .ok (.aload_n 3, 1) := by decide +kernel
theorem dX7_value_23 : decode cX7_value 23 = .ok (.getfield 113, 3) := by decide +kernel
theorem dX7_value_26 : decode cX7_value 26 = .ok (.iload_n 2, 1) := by decide +kernel
theorem dX7_value_27 : decode cX7_value 27 = .ok (.invokevirtual 124, 3) := by decide +kernel
theorem dX7_value_30 : decode cX7_value 30 = .ok (.lreturn, 1) := by decide +kernel
theorem dX7_fails_0 : decode cX7_fails 0 = .ok (.aload_n 0, 1) := by decide +kernel
theorem dX7_fails_1 : decode cX7_fails 1 = .ok (.iload_n 1, 1) := by decide +kernel
theorem dX7_fails_2 : decode cX7_fails 2 = .ok (.invokevirtual 88, 3) := by decide +kernel
theorem dX7_fails_5 : decode cX7_fails 5 = .ok (.astore_n 3, 1) := by decide +kernel
theorem dX7_fails_6 : decode cX7_fails 6 = .ok (.aload_n 3, 1) := by decide +kernel
theorem dX7_fails_7 : decode cX7_fails 7 = .ok (.ifnull 12, 3) := by decide +kernel
theorem dX7_fails_10 : decode cX7_fails 10 = .ok (.iload_n 2, 1) := by decide +kernel
theorem dX7_fails_11 : decode cX7_fails 11 = .ok (.iconst 0, 1) := by decide +kernel
theorem dX7_fails_12 : decode cX7_fails 12 = .ok (.iconst 1, 1) := by decide +kernel
theorem dX7_fails_13 : decode cX7_fails 13 = .ok (.invokestatic 55, 3) := by decide +kernel
theorem dX7_fails_16 : decode cX7_fails 16 = .ok (.ifCond .ne 5, 3) := by decide +kernel
theorem dX7_fails_19 : decode cX7_fails 19 = .ok (.iconst (-1), 1) := by decide +kernel
theorem dX7_fails_20 : decode cX7_fails 20 = .ok (.ireturn, 1) := by decide +kernel
theorem dX7_fails_21 : decode cX7_fails 21 = .ok (.aload_n 0, 1) := by decide +kernel
theorem dX7_fails_22 : decode cX7_fails 22 = .ok (.getfield 50, 3) := by decide +kernel
theorem dX7_fails_25 : decode cX7_fails 25 = .ok (.ifCond .eq 11, 3) := by decide +kernel
theorem dX7_fails_28 : decode cX7_fails 28 = .ok (.aload_n 3, 1) := by decide +kernel
theorem dX7_fails_29 : decode cX7_fails 29 = .ok (.iload_n 2, 1) := by decide +kernel
theorem dX7_fails_30 : decode cX7_fails 30 = .ok (.invokevirtual 128, 3) := by decide +kernel
theorem dX7_fails_33 : decode cX7_fails 33 = .ok (.goto 5, 3) := by decide +kernel
theorem dX7_fails_36 : decode cX7_fails 36 = .ok (.bipush (-3), 2) := by decide +kernel
theorem dX7_fails_38 : decode cX7_fails 38 = .ok (.ireturn, 1) := by decide +kernel
theorem dX7_tell_0 : decode cX7_tell 0 = .ok (.aload_n 0, 1) := by decide +kernel
theorem dX7_tell_1 : decode cX7_tell 1 = .ok (.iload_n 1, 1) := by decide +kernel
theorem dX7_tell_2 : decode cX7_tell 2 = .ok (.invokevirtual 88, 3) := by decide +kernel
theorem dX7_tell_5 : decode cX7_tell 5 = .ok (.astore 6, 2) := by decide +kernel
theorem dX7_tell_7 : decode cX7_tell 7 = .ok (.aload 6, 2) := by decide +kernel
theorem dX7_tell_9 : decode cX7_tell 9 = .ok (.ifnull 23, 3) := by decide +kernel
theorem dX7_tell_12 : decode cX7_tell 12 = .ok (.iload_n 2, 1) := by decide +kernel
theorem dX7_tell_13 : decode cX7_tell 13 = .ok (.iconst 0, 1) := by decide +kernel
theorem dX7_tell_14 : decode cX7_tell 14 = .ok (.sipush 20000, 3) := by decide +kernel
theorem dX7_tell_17 : decode cX7_tell 17 = .ok (.invokestatic 55, 3) := by decide +kernel
theorem dX7_tell_20 : decode cX7_tell 20 = .ok (.ifCond .eq 12, 3) := by decide +kernel
theorem dX7_tell_23 : decode cX7_tell 23 = .ok (.iload_n 3, 1) := by decide +kernel
theorem dX7_tell_24 : decode cX7_tell 24 = .ok (.iconst 0, 1) := by decide +kernel
theorem dX7_tell_25 : decode cX7_tell 25 = .ok (.iconst 5, 1) := by decide +kernel
theorem dX7_tell_26 : decode cX7_tell 26 = .ok (.invokestatic 55, 3) := by decide +kernel
theorem dX7_tell_29 : decode cX7_tell 29 = .ok (.ifCond .ne 5, 3) := by decide +kernel
theorem dX7_tell_32 : decode cX7_tell 32 = .ok (.iconst (-1), 1) := by decide +kernel
theorem dX7_tell_33 : decode cX7_tell 33 = .ok (.ireturn, 1) := by decide +kernel
theorem dX7_tell_34 : decode cX7_tell 34 = .ok (.aload 6, 2) := by decide +kernel
theorem dX7_tell_36 : decode cX7_tell 36 = .ok (.getfield 92, 3) := by decide +kernel
theorem dX7_tell_39 : decode cX7_tell 39 = .ok (.iload_n 2, 1) := by decide +kernel
theorem dX7_tell_40 : decode cX7_tell 40 = .ok (.iload_n 3, 1) := by decide +kernel
theorem dX7_tell_41 : decode cX7_tell 41 = .ok (.lload 4, 2) := by decide +kernel
theorem dX7_tell_43 : decode cX7_tell 43 = .ok (.invokevirtual 131, 3) := by decide +kernel
theorem dX7_tell_46 : decode cX7_tell 46 = .ok (.ifCond .eq 14, 3) := by decide +kernel
theorem dX7_tell_49 : decode cX7_tell 49 = .ok (.aload 6, 2) := by decide +kernel
theorem dX7_tell_51 : decode cX7_tell 51 = .ok (.getfield 92, 3) := by decide +kernel
theorem dX7_tell_54 : decode cX7_tell 54 = .ok (.invokevirtual 116, 3) := by decide +kernel
theorem dX7_tell_57 : decode cX7_tell 57 = .ok (.goto 5, 3) := by decide +kernel
theorem dX7_tell_60 : decode cX7_tell 60 = .ok (.bipush (-2), 2) := by decide +kernel
theorem dX7_tell_62 : decode cX7_tell 62 = .ok (.ireturn, 1) := by decide +kernel
theorem dX7_untell_0 : decode cX7_untell 0 = .ok (.aload_n 0, 1) := by decide +kernel
theorem dX7_untell_1 : decode cX7_untell 1 = .ok (.iload_n 1, 1) := by decide +kernel
theorem dX7_untell_2 : decode cX7_untell 2 = .ok (.invokevirtual 88, 3) := by decide +kernel
theorem dX7_untell_5 : decode cX7_untell 5 = .ok (.astore_n 2, 1) := by decide +kernel
theorem dX7_untell_6 : decode cX7_untell 6 = .ok (.aload_n 2, 1) := by decide +kernel
theorem dX7_untell_7 : decode cX7_untell 7 = .ok (.ifnonnull 5, 3) := by decide +kernel
theorem dX7_untell_10 : decode cX7_untell 10 = .ok (.iconst (-1), 1) := by decide +kernel
theorem dX7_untell_11 : decode cX7_untell 11 = .ok (.ireturn, 1) := by decide +kernel
theorem dX7_untell_12 : decode cX7_untell 12 = .ok (.aload_n 2, 1) := by decide +kernel
theorem dX7_untell_13 : decode cX7_untell 13 = .ok (.getfield 92, 3) := by decide +kernel
theorem dX7_untell_16 : decode cX7_untell 16 = .ok (.invokevirtual 116, 3) := by decide +kernel
theorem dX7_untell_19 : decode cX7_untell 19 = .ok (.istore_n 3, 1) := by decide +kernel
theorem dX7_untell_20 : decode cX7_untell 20 = .ok (.aload_n 2, 1) := by decide +kernel
theorem dX7_untell_21 : decode cX7_untell 21 = .ok (.getfield 92, 3) := by decide +kernel
theorem dX7_untell_24 : decode cX7_untell 24 = .ok (.invokevirtual 96, 3) := by decide +kernel
theorem dX7_untell_27 : decode cX7_untell 27 = .ok (.iload_n 3, 1) := by decide +kernel
theorem dX7_untell_28 : decode cX7_untell 28 = .ok (.ireturn, 1) := by decide +kernel
theorem dX7_compare_0 : decode cX7_compare 0 = .ok (.aload_n 0, 1) := by decide +kernel
theorem dX7_compare_1 : decode cX7_compare 1 = .ok (.iload_n 1, 1) := by decide +kernel
theorem dX7_compare_2 : decode cX7_compare 2 = .ok (.invokevirtual 88, 3) := by decide +kernel
theorem dX7_compare_5 : decode cX7_compare 5 = .ok (.astore_n 3, 1) := by decide +kernel
theorem dX7_compare_6 : decode cX7_compare 6 = .ok (.aload_n 3, 1) := by decide +kernel
theorem dX7_compare_7 : decode cX7_compare 7 = .ok (.ifnull 12, 3) := by decide +kernel
theorem dX7_compare_10 : decode cX7_compare 10 = .ok (.iload_n 2, 1) := by decide +kernel
theorem dX7_compare_11 : decode cX7_compare 11 = .ok (.iconst 0, 1) := by decide +kernel
theorem dX7_compare_12 : decode cX7_compare 12 = .ok (.iconst 1, 1) := by decide +kernel
theorem dX7_compare_13 : decode cX7_compare 13 = .ok (.invokestatic 55, 3) := by decide +kernel
theorem dX7_compare_16 : decode cX7_compare 16 = .ok (.ifCond .ne 5, 3) := by decide +kernel
theorem dX7_compare_19 : decode cX7_compare 19 = .ok (.iconst (-1), 1) := by decide +kernel
theorem dX7_compare_20 : decode cX7_compare 20 = .ok (.ireturn, 1) := by decide +kernel
theorem dX7_compare_21 : decode cX7_compare 21 = .ok (.aload_n 0, 1) := by decide +kernel
theorem dX7_compare_22 : decode cX7_compare 22 = .ok (.aload_n 3, 1) := by decide +kernel
theorem dX7_compare_23 : decode cX7_compare 23 = .ok (.invokevirtual 109, 3) := by decide +kernel
theorem dX7_compare_26 : decode cX7_compare 26 = .ok (.istore 4, 2) := by decide +kernel
theorem dX7_compare_28 : decode cX7_compare 28 = .ok (.iload 4, 2) := by decide +kernel
theorem dX7_compare_30 : decode cX7_compare 30 = .ok (.ifCond .eq 6, 3) := by decide +kernel
theorem dX7_compare_33 : decode cX7_compare 33 = .ok (.iload 4, 2) := by decide +kernel
theorem dX7_compare_35 : decode cX7_compare 35 = .ok (.ireturn, 1) := by decide +kernel
theorem dX7_compare_36 : decode cX7_compare 36 = .ok (.iload_n 2, 1) := by decide +kernel
theorem dX7_compare_37 : decode cX7_compare 37 = .ok (.ifCond .ne 21, 3) := by decide +kernel
theorem dX7_compare_40 : decode cX7_compare 40 = .ok (.aload_n 0, 1) := by decide +kernel
theorem dX7_compare_41 : decode cX7_compare 41 = .ok (.getfield 39, 3) := by decide +kernel
theorem dX7_compare_44 : decode cX7_compare 44 = .ok (.aload_n 3, 1) := by decide +kernel
theorem dX7_compare_45 : decode cX7_compare 45 = .ok (.getfield 113, 3) := by decide +kernel
theorem dX7_compare_48 : decode cX7_compare 48 = .ok (.aload_n 3, 1) := by decide +kernel
theorem dX7_compare_49 : decode cX7_compare 49 = .ok (.getfield 92, 3) := by decide +kernel
theorem dX7_compare_52 : decode cX7_compare 52 = .ok (.invokevirtual 135, 3) := by decide +kernel
theorem dX7_compare_55 : decode cX7_compare 55 = .ok (.goto 18, 3) := by decide +kernel
theorem dX7_compare_58 : decode cX7_compare 58 = .ok (.aload_n 0, 1) := by decide +kernel
theorem dX7_compare_59 : decode cX7_compare 59 = .ok (.getfield 39, 3) := by decide +kernel
theorem dX7_compare_62 : decode cX7_compare 62 = .ok (.aload_n 3, 1) := by decide +kernel
theorem dX7_compare_63 : decode cX7_compare 63 = .ok (.getfield 113, 3) := by decide +kernel
theorem dX7_compare_66 : decode cX7_compare 66 = .ok (.aload_n 3, 1) := by decide +kernel
theorem dX7_compare_67 : decode cX7_compare 67 = .ok (.getfield 92, 3) := by decide +kernel
theorem dX7_compare_70 : decode cX7_compare 70 = .ok (.invokevirtual 139, 3) := by decide +kernel
theorem dX7_compare_73 : decode cX7_compare 73 = .ok (.ireturn, 1) := by decide +kernel
theorem dX7_where_0 : decode cX7_where 0 = .ok (.iload_n 1, 1) := by decide +kernel
theorem dX7_where_1 : decode cX7_where 1 = .ok (.iconst 0, 1) := by decide +kernel
theorem dX7_where_2 : decode cX7_where 2 = .ok (.iconst 2, 1) := by decide +kernel
theorem dX7_where_3 : decode cX7_where 3 = .ok (.invokestatic 55, 3) := by decide +kernel
theorem dX7_where_6 : decode cX7_where 6 = .ok (.ifCond .ne 5, 3) := by decide +kernel
theorem dX7_where_9 : decode cX7_where 9 = .ok (.iconst (-1), 1) := by decide +kernel
theorem dX7_where_10 : decode cX7_where 10 = .ok (.ireturn, 1) := by decide +kernel
theorem dX7_where_11 : decode cX7_where 11 = .ok (.aload_n 0, 1) := by decide +kernel
theorem dX7_where_12 : decode cX7_where 12 = .ok (.getfield 50, 3) := by decide +kernel
theorem dX7_where_15 : decode cX7_where 15 = .ok (.ifCond .eq 24, 3) := by decide +kernel
theorem dX7_where_18 : decode cX7_where 18 = .ok (.aload_n 0, 1) := by decide +kernel
theorem dX7_where_19 : decode cX7_where 19 = .ok (.getfield 39, 3) := by decide +kernel
theorem dX7_where_22 : decode cX7_where 22 = .ok (.invokevirtual 142, 3) := by decide +kernel
theorem dX7_where_25 : decode cX7_where 25 = .ok (.ifCond .eq 14, 3) := by decide +kernel
theorem dX7_where_28 : decode cX7_where 28 = .ok (.aload_n 0, 1) := by decide +kernel
theorem dX7_where_29 : decode cX7_where 29 = .ok (.getfield 39, 3) := by decide +kernel
theorem dX7_where_32 : decode cX7_where 32 = .ok (.iload_n 1, 1) := by decide +kernel
theorem dX7_where_33 : decode cX7_where 33 = .ok (.invokevirtual 146, 3) := by decide +kernel
theorem dX7_where_36 : decode cX7_where 36 = .ok (.goto 5, 3) := by decide +kernel
theorem dX7_where_39 : decode cX7_where 39 = .ok (.bipush (-4), 2) := by decide +kernel
theorem dX7_where_41 : decode cX7_where 41 = .ok (.ireturn, 1) := by decide +kernel
theorem dX7_count_0 : decode cX7_count 0 = .ok (.iload_n 1, 1) := by decide +kernel
theorem dX7_count_1 : decode cX7_count 1 = .ok (.tableswitch 45 0 2 #[27, 35, 40], 27) := by decide +kernel
theorem dX7_count_28 : decode cX7_count 28 = .ok (.aload_n 0, 1) := by decide +kernel
theorem dX7_count_29 : decode cX7_count 29 = .ok (.getfield 10, 3) := by decide +kernel
theorem dX7_count_32 : decode cX7_count 32 = .ok (.invokevirtual 65, 3) := by decide +kernel
theorem dX7_count_35 : decode cX7_count 35 = .ok (.ireturn, 1) := by decide +kernel
theorem dX7_count_36 : decode cX7_count 36 = .ok (.aload_n 0, 1) := by decide +kernel
theorem dX7_count_37 : decode cX7_count 37 = .ok (.getfield 43, 3) := by decide +kernel
theorem dX7_count_40 : decode cX7_count 40 = .ok (.ireturn, 1) := by decide +kernel
theorem dX7_count_41 : decode cX7_count 41 = .ok (.aload_n 0, 1) := by decide +kernel
theorem dX7_count_42 : decode cX7_count 42 = .ok (.getfield 47, 3) := by decide +kernel
theorem dX7_count_45 : decode cX7_count 45 = .ok (.ireturn, 1) := by decide +kernel
theorem dX7_count_46 : decode cX7_count 46 = .ok (.iconst (-1), 1) := by decide +kernel
theorem dX7_count_47 : decode cX7_count 47 = .ok (.ireturn, 1) := by decide +kernel
theorem dX7_clear_0 : decode cX7_clear 0 = .ok (.aload_n 0, 1) := by decide +kernel
theorem dX7_clear_1 : decode cX7_clear 1 = .ok (.getfield 43, 3) := by decide +kernel
theorem dX7_clear_4 : decode cX7_clear 4 = .ok (.istore_n 1, 1) := by decide +kernel
theorem dX7_clear_5 : decode cX7_clear 5 = .ok (.iconst 0, 1) := by decide +kernel
theorem dX7_clear_6 : decode cX7_clear 6 = .ok (.istore_n 2, 1) := by decide +kernel
theorem dX7_clear_7 : decode cX7_clear 7 = .ok (.iload_n 2, 1) := by decide +kernel
theorem dX7_clear_8 : decode cX7_clear 8 = .ok (.aload_n 0, 1) := by decide +kernel
theorem dX7_clear_9 : decode cX7_clear 9 = .ok (.getfield 25, 3) := by decide +kernel
theorem dX7_clear_12 : decode cX7_clear 12 = .ok (.arraylength, 1) := by decide +kernel
theorem dX7_clear_13 : decode cX7_clear 13 = .ok (.if_icmp .ge 27, 3) := by decide +kernel
theorem dX7_clear_16 : decode cX7_clear 16 = .ok (.aload_n 0, 1) := by decide +kernel
theorem dX7_clear_17 : decode cX7_clear 17 = .ok (.getfield 25, 3) := by decide +kernel
theorem dX7_clear_20 : decode cX7_clear 20 = .ok (.iload_n 2, 1) := by decide +kernel
theorem dX7_clear_21 : decode cX7_clear 21 = .ok (.aaload, 1) := by decide +kernel
theorem dX7_clear_22 : decode cX7_clear 22 = .ok (.astore_n 3, 1) := by decide +kernel
theorem dX7_clear_23 : decode cX7_clear 23 = .ok (.aload_n 3, 1) := by decide +kernel
theorem dX7_clear_24 : decode cX7_clear 24 = .ok (.ifnull 10, 3) := by decide +kernel
theorem dX7_clear_27 : decode cX7_clear 27 = .ok (.aload_n 3, 1) := by decide +kernel
theorem dX7_clear_28 : decode cX7_clear 28 = .ok (.getfield 92, 3) := by decide +kernel
theorem dX7_clear_31 : decode cX7_clear 31 = .ok (.invokevirtual 96, 3) := by decide +kernel
theorem dX7_clear_34 : decode cX7_clear 34 = .ok (.iinc 2 1, 3) := by decide +kernel
theorem dX7_clear_37 : decode cX7_clear 37 = .ok (.goto (-30), 3) := by decide +kernel
theorem dX7_clear_40 : decode cX7_clear 40 = .ok (.aload_n 0, 1) := by decide +kernel
theorem dX7_clear_41 : decode cX7_clear 41 = .ok (.getfield 10, 3) := by decide +kernel
theorem dX7_clear_44 : decode cX7_clear 44 = .ok (.invokevirtual 77, 3) := by decide +kernel
theorem dX7_clear_47 : decode cX7_clear 47 = .ok (.aload_n 0, 1) := by decide +kernel
theorem dX7_clear_48 : decode cX7_clear 48 = .ok (.getfield 19, 3) := by decide +kernel
theorem dX7_clear_51 : decode cX7_clear 51 = .ok (.invokevirtual 149, 3) := by decide +kernel
theorem dX7_clear_54 : decode cX7_clear 54 = .ok (.aload_n 0, 1) := by decide +kernel
theorem dX7_clear_55 : decode cX7_clear 55 = .ok (.iconst 0, 1) := by decide +kernel
theorem dX7_clear_56 : decode cX7_clear 56 = .ok (.putfield 43, 3) := by decide +kernel
theorem dX7_clear_59 : decode cX7_clear 59 = .ok (.aload_n 0, 1) := by decide +kernel
theorem dX7_clear_60 : decode cX7_clear 60 = .ok (.invokevirtual 99, 3) := by decide +kernel
theorem dX7_clear_63 : decode cX7_clear 63 = .ok (.iload_n 1, 1) := by decide +kernel
theorem dX7_clear_64 : decode cX7_clear 64 = .ok (.ireturn, 1) := by decide +kernel
theorem dX7_within_0 : decode cX7_within 0 = .ok (.iload_n 0, 1) := by decide +kernel
theorem dX7_within_1 : decode cX7_within 1 = .ok (.iload_n 1, 1) := by decide +kernel
theorem dX7_within_2 : decode cX7_within 2 = .ok (.if_icmp .lt 12, 3) := by decide +kernel
theorem dX7_within_5 : decode cX7_within 5 = .ok (.iload_n 0, 1) := by decide +kernel
theorem dX7_within_6 : decode cX7_within 6 = .ok (.iload_n 2, 1) := by decide +kernel
theorem dX7_within_7 : decode cX7_within 7 = .ok (.if_icmp .gt 7, 3) := by decide +kernel
theorem dX7_within_10 : decode cX7_within 10 = .ok (.iconst 1, 1) := by decide +kernel
theorem dX7_within_11 : decode cX7_within 11 = .ok (.goto 4, 3) := by decide +kernel
theorem dX7_within_14 : decode cX7_within 14 = .ok (.iconst 0, 1) := by decide +kernel
theorem dX7_within_15 : decode cX7_within 15 = .ok (.ireturn, 1) := by decide +kernel
theorem dX7_isOperator_0 : decode cX7_isOperator 0 = .ok (.aload_n 0, 1) := by decide +kernel
theorem dX7_isOperator_1 : decode cX7_isOperator 1 = .ok (.iload_n 1, 1) := by decide +kernel
theorem dX7_isOperator_2 : decode cX7_isOperator 2 = .ok (.invokevirtual 88, 3) := by decide +kernel
theorem dX7_isOperator_5 : decode cX7_isOperator 5 = .ok (.ifnull 7, 3) := by decide +kernel
theorem dX7_isOperator_8 : decode cX7_isOperator 8 = .ok (.iconst 1, 1) := by decide +kernel
theorem dX7_isOperator_9 : decode cX7_isOperator 9 = .ok (.goto 4, 3) := by decide +kernel
theorem dX7_isOperator_12 : decode cX7_isOperator 12 = .ok (.iconst 0, 1) := by decide +kernel
theorem dX7_isOperator_13 : decode cX7_isOperator 13 = .ok (.ireturn, 1) := by decide +kernel
theorem dX7_operatorAt_0 : decode cX7_operatorAt 0 = .ok (.iload_n 1, 1) := by decide +kernel
theorem dX7_operatorAt_1 : decode cX7_operatorAt 1 = .ok (.ifCond .lt 29, 3) := by decide +kernel
theorem dX7_operatorAt_4 : decode cX7_operatorAt 4 = .ok (.iload_n 1, 1) := by decide +kernel
theorem dX7_operatorAt_5 : decode cX7_operatorAt 5 = .ok (.aload_n 0, 1) := by decide +kernel
theorem dX7_operatorAt_6 : decode cX7_operatorAt 6 = .ok (.getfield 43, 3) := by decide +kernel
theorem dX7_operatorAt_9 : decode cX7_operatorAt 9 = .ok (.if_icmp .ge 21, 3) := by decide +kernel
theorem dX7_operatorAt_12 : decode cX7_operatorAt 12 = .ok (.iload_n 1, 1) := by decide +kernel
theorem dX7_operatorAt_13 : decode cX7_operatorAt 13 = .ok (.aload_n 0, 1) := by decide +kernel
theorem dX7_operatorAt_14 : decode cX7_operatorAt 14 = .ok (.getfield 25, 3) := by decide +kernel
theorem dX7_operatorAt_17 : decode cX7_operatorAt 17 = .ok (.arraylength, 1) := by decide +kernel
theorem dX7_operatorAt_18 : decode cX7_operatorAt 18 = .ok (.if_icmp .ge 12, 3) := by decide +kernel
theorem dX7_operatorAt_21 : decode cX7_operatorAt 21 = .ok (.aload_n 0, 1) := by decide +kernel
theorem dX7_operatorAt_22 : decode cX7_operatorAt 22 = .ok (.getfield 25, 3) := by decide +kernel
theorem dX7_operatorAt_25 : decode cX7_operatorAt 25 = .ok (.iload_n 1, 1) := by decide +kernel
theorem dX7_operatorAt_26 : decode cX7_operatorAt 26 = .ok (.aaload, 1) := by decide +kernel
theorem dX7_operatorAt_27 : decode cX7_operatorAt 27 = .ok (.goto 4, 3) := by decide +kernel
theorem dX7_operatorAt_30 : decode cX7_operatorAt 30 = .ok (.aconst_null, 1) := by decide +kernel
theorem dX7_operatorAt_31 : decode cX7_operatorAt 31 = .ok (.areturn, 1) := by decide +kernel
theorem dX7_addOperator_0 : decode cX7_addOperator 0 = .ok (.aload_n 0, 1) := by decide +kernel
theorem dX7_addOperator_1 : decode cX7_addOperator 1 = .ok (.getfield 43, 3) := by decide +kernel
theorem dX7_addOperator_4 : decode cX7_addOperator 4 = .ok (.aload_n 0, 1) := by decide +kernel
theorem dX7_addOperator_5 : decode cX7_addOperator 5 = .ok (.getfield 25, 3) := by decide +kernel
theorem dX7_addOperator_8 : decode cX7_addOperator 8 = .ok (.arraylength, 1) := by decide +kernel
theorem dX7_addOperator_9 : decode cX7_addOperator 9 = .ok (.if_icmp .lt 6, 3) := by decide +kernel
theorem dX7_addOperator_12 : decode cX7_addOperator 12 = .ok (.bipush (-2), 2) := by decide +kernel
theorem dX7_addOperator_14 : decode cX7_addOperator 14 = .ok (.ireturn, 1) := by decide +kernel
theorem dX7_addOperator_15 : decode cX7_addOperator 15 = .ok (.aload_n 0, 1) := by decide +kernel
theorem dX7_addOperator_16 : decode cX7_addOperator 16 = .ok (.getfield 25, 3) := by decide +kernel
theorem dX7_addOperator_19 : decode cX7_addOperator 19 = .ok (.aload_n 0, 1) := by decide +kernel
theorem dX7_addOperator_20 : decode cX7_addOperator 20 = .ok (.getfield 43, 3) := by decide +kernel
theorem dX7_addOperator_23 : decode cX7_addOperator 23 = .ok (.aaload, 1) := by decide +kernel
theorem dX7_addOperator_24 : decode cX7_addOperator 24 = .ok (.astore 6, 2) := by decide +kernel
theorem dX7_addOperator_26 : decode cX7_addOperator 26 = .ok (.aload 6, 2) := by decide +kernel
theorem dX7_addOperator_28 : decode cX7_addOperator 28 = .ok (.ifnonnull 6, 3) := by decide +kernel
theorem dX7_addOperator_31 : decode cX7_addOperator 31 = .ok (.bipush (-2), 2) := by decide +kernel
theorem dX7_addOperator_33 : decode cX7_addOperator 33 = .ok (.ireturn, 1) := by decide +kernel
theorem dX7_addOperator_34 : decode cX7_addOperator 34 = .ok (.aload 6, 2) := by decide +kernel
theorem dX7_addOperator_36 : decode cX7_addOperator 36 = .ok (.iload_n 1, 1) := by decide +kernel
theorem dX7_addOperator_37 : decode cX7_addOperator 37 = .ok (.iload_n 2, 1) := by decide +kernel
theorem dX7_addOperator_38 : decode cX7_addOperator 38 = .ok (.iload_n 3, 1) := by decide +kernel
theorem dX7_addOperator_39 : decode cX7_addOperator 39 = .ok (.iload 4, 2) := by decide +kernel
theorem dX7_addOperator_41 : decode cX7_addOperator 41 = .ok (.iload 5, 2) := by decide +kernel
theorem dX7_addOperator_43 : decode cX7_addOperator 43 = .ok (.invokevirtual 150, 3) := by decide +kernel
theorem dX7_addOperator_46 : decode cX7_addOperator 46 = .ok (.aload_n 0, 1) := by decide +kernel
theorem dX7_addOperator_47 : decode cX7_addOperator 47 = .ok (.dup, 1) := by decide +kernel
theorem dX7_addOperator_48 : decode cX7_addOperator 48 = .ok (.getfield 43, 3) := by decide +kernel
theorem dX7_addOperator_51 : decode cX7_addOperator 51 = .ok (.iconst 1, 1) := by decide +kernel
theorem dX7_addOperator_52 : decode cX7_addOperator 52 = .ok (.iadd, 1) := by decide +kernel
theorem dX7_addOperator_53 : decode cX7_addOperator 53 = .ok (.putfield 43, 3) := by decide +kernel
theorem dX7_addOperator_56 : decode cX7_addOperator 56 = .ok (.aload_n 0, 1) := by decide +kernel
theorem dX7_addOperator_57 : decode cX7_addOperator 57 = .ok (.invokevirtual 99, 3) := by decide +kernel
theorem dX7_addOperator_60 : decode cX7_addOperator 60 = .ok (.aload_n 0, 1) := by decide +kernel
theorem dX7_addOperator_61 : decode cX7_addOperator 61 = .ok (.getfield 43, 3) := by decide +kernel
theorem dX7_addOperator_64 : decode cX7_addOperator 64 = .ok (.iconst 1, 1) := by decide +kernel
theorem dX7_addOperator_65 : decode cX7_addOperator 65 = .ok (.isub, 1) := by decide +kernel
theorem dX7_addOperator_66 : decode cX7_addOperator 66 = .ok (.ireturn, 1) := by decide +kernel
theorem dX7_forgetJudged_0 : decode cX7_forgetJudged 0 = .ok (.aload_n 0, 1) := by decide +kernel
theorem dX7_forgetJudged_1 : decode cX7_forgetJudged 1 = .ok (.iconst 0, 1) := by decide +kernel
theorem dX7_forgetJudged_2 : decode cX7_forgetJudged 2 = .ok (.putfield 50, 3) := by decide +kernel
theorem dX7_forgetJudged_5 : decode cX7_forgetJudged 5 = .ok (.aload_n 0, 1) := by decide +kernel
theorem dX7_forgetJudged_6 : decode cX7_forgetJudged 6 = .ok (.getfield 39, 3) := by decide +kernel
theorem dX7_forgetJudged_9 : decode cX7_forgetJudged 9 = .ok (.invokevirtual 106, 3) := by decide +kernel
theorem dX7_forgetJudged_12 : decode cX7_forgetJudged 12 = .ok (.return_, 1) := by decide +kernel
theorem dX7_refusalToShow_0 : decode cX7_refusalToShow 0 = .ok (.aload_n 1, 1) := by decide +kernel
theorem dX7_refusalToShow_1 : decode cX7_refusalToShow 1 = .ok (.ifnonnull 5, 3) := by decide +kernel
theorem dX7_refusalToShow_4 : decode cX7_refusalToShow 4 = .ok (.iconst (-1), 1) := by decide +kernel
theorem dX7_refusalToShow_5 : decode cX7_refusalToShow 5 = .ok (.ireturn, 1) := by decide +kernel
theorem dX7_refusalToShow_6 : decode cX7_refusalToShow 6 = .ok (.aload_n 0, 1) := by decide +kernel
theorem dX7_refusalToShow_7 : decode cX7_refusalToShow 7 = .ok (.getfield 50, 3) := by decide +kernel
theorem dX7_refusalToShow_10 : decode cX7_refusalToShow 10 = .ok (.ifCond .ne 6, 3) := by decide +kernel
theorem dX7_refusalToShow_13 : decode cX7_refusalToShow 13 = .ok (.bipush (-3), 2) := by decide +kernel
theorem dX7_refusalToShow_15 : decode cX7_refusalToShow 15 = .ok (.ireturn, 1) := by decide +kernel
theorem dX7_refusalToShow_16 : decode cX7_refusalToShow 16 = .ok (.aload_n 1, 1) := by decide +kernel
theorem dX7_refusalToShow_17 : decode cX7_refusalToShow 17 = .ok (.getfield 154, 3) := by decide +kernel
theorem dX7_refusalToShow_20 : decode cX7_refusalToShow 20 = .ok (.ifCond .eq 8, 3) := by decide +kernel
theorem dX7_refusalToShow_23 : decode cX7_refusalToShow 23 = .ok (.bipush (-6), 2) := by decide +kernel
theorem dX7_refusalToShow_25 : decode cX7_refusalToShow 25 = .ok (.goto 4, 3) := by decide +kernel
theorem dX7_refusalToShow_28 : decode cX7_refusalToShow 28 = .ok (.iconst 0, 1) := by decide +kernel
theorem dX7_refusalToShow_29 : decode cX7_refusalToShow 29 = .ok (.ireturn, 1) := by decide +kernel
theorem dX7_judgeOne_0 : decode cX7_judgeOne 0 = .ok (.aload_n 1, 1) := by decide +kernel
theorem dX7_judgeOne_1 : decode cX7_judgeOne 1 = .ok (.invokevirtual 157, 3) := by decide +kernel
theorem dX7_judgeOne_4 : decode cX7_judgeOne 4 = .ok (.aload_n 1, 1) := by decide +kernel
theorem dX7_judgeOne_5 : decode cX7_judgeOne 5 = .ok (.getfield 160, 3) := by decide +kernel
theorem dX7_judgeOne_8 : decode cX7_judgeOne 8 = .ok (.ifCond .ne 25, 3) := by decide +kernel
theorem dX7_judgeOne_11 : decode cX7_judgeOne 11 = .ok (.aload_n 1, 1) := by decide +kernel
theorem dX7_judgeOne_12 : decode cX7_judgeOne 12 = .ok (.aload_n 0, 1) := by decide +kernel
theorem dX7_judgeOne_13 : decode cX7_judgeOne 13 = .ok (.getfield 10, 3) := by decide +kernel
theorem dX7_judgeOne_16 : decode cX7_judgeOne 16 = .ok (.aload_n 1, 1) := by decide +kernel
theorem dX7_judgeOne_17 : decode cX7_judgeOne 17 = .ok (.getfield 163, 3) := by decide +kernel
theorem dX7_judgeOne_20 : decode cX7_judgeOne 20 = .ok (.aload_n 1, 1) := by decide +kernel
theorem dX7_judgeOne_21 : decode cX7_judgeOne 21 = .ok (.getfield 113, 3) := by decide +kernel
theorem dX7_judgeOne_24 : decode cX7_judgeOne 24 = .ok (.invokevirtual 166, 3) := by decide +kernel
theorem dX7_judgeOne_27 : decode cX7_judgeOne 27 = .ok (.invokevirtual 170, 3) := by decide +kernel
theorem dX7_judgeOne_30 : decode cX7_judgeOne 30 = .ok (.goto 87, 3) := by decide +kernel
theorem dX7_judgeOne_33 : decode cX7_judgeOne 33 = .ok (.aload_n 0, 1) := by decide +kernel
theorem dX7_judgeOne_34 : decode cX7_judgeOne 34 = .ok (.aload_n 1, 1) := by decide +kernel
theorem dX7_judgeOne_35 : decode cX7_judgeOne 35 = .ok (.getfield 174, 3) := by decide +kernel
theorem dX7_judgeOne_38 : decode cX7_judgeOne 38 = .ok (.invokevirtual 88, 3) := by decide +kernel
theorem dX7_judgeOne_41 : decode cX7_judgeOne 41 = .ok (.astore_n 2, 1) := by decide +kernel
theorem dX7_judgeOne_42 : decode cX7_judgeOne 42 = .ok (.aload_n 0, 1) := by decide +kernel
theorem dX7_judgeOne_43 : decode cX7_judgeOne 43 = .ok (.aload_n 1, 1) := by decide +kernel
theorem dX7_judgeOne_44 : decode cX7_judgeOne 44 = .ok (.getfield 177, 3) := by decide +kernel
theorem dX7_judgeOne_47 : decode cX7_judgeOne 47 = .ok (.invokevirtual 88, 3) := by decide +kernel
theorem dX7_judgeOne_50 : decode cX7_judgeOne 50 = .ok (.astore_n 3, 1) := by decide +kernel
theorem dX7_judgeOne_51 : decode cX7_judgeOne 51 = .ok (.aload_n 2, 1) := by decide +kernel
theorem dX7_judgeOne_52 : decode cX7_judgeOne 52 = .ok (.ifnull 25, 3) := by decide +kernel
theorem dX7_judgeOne_55 : decode cX7_judgeOne 55 = .ok (.aload_n 3, 1) := by decide +kernel
theorem dX7_judgeOne_56 : decode cX7_judgeOne 56 = .ok (.ifnull 21, 3) := by decide +kernel
theorem dX7_judgeOne_59 : decode cX7_judgeOne 59 = .ok (.aload_n 2, 1) := by decide +kernel
theorem dX7_judgeOne_60 : decode cX7_judgeOne 60 = .ok (.getfield 154, 3) := by decide +kernel
theorem dX7_judgeOne_63 : decode cX7_judgeOne 63 = .ok (.ifCond .ne 14, 3) := by decide +kernel
theorem dX7_judgeOne_66 : decode cX7_judgeOne 66 = .ok (.aload_n 3, 1) := by decide +kernel
theorem dX7_judgeOne_67 : decode cX7_judgeOne 67 = .ok (.getfield 154, 3) := by decide +kernel
theorem dX7_judgeOne_70 : decode cX7_judgeOne 70 = .ok (.ifCond .ne 7, 3) := by decide +kernel
theorem dX7_judgeOne_73 : decode cX7_judgeOne 73 = .ok (.iconst 1, 1) := by decide +kernel
theorem dX7_judgeOne_74 : decode cX7_judgeOne 74 = .ok (.goto 4, 3) := by decide +kernel
theorem dX7_judgeOne_77 : decode cX7_judgeOne 77 = .ok (.iconst 0, 1) := by decide +kernel
theorem dX7_judgeOne_78 : decode cX7_judgeOne 78 = .ok (.istore 4, 2) := by decide +kernel
theorem dX7_judgeOne_80 : decode cX7_judgeOne 80 = .ok (.aload_n 1, 1) := by decide +kernel
theorem dX7_judgeOne_81 : decode cX7_judgeOne 81 = .ok (.iload 4, 2) := by decide +kernel
theorem dX7_judgeOne_83 : decode cX7_judgeOne 83 = .ok (.ifCond .eq 30, 3) := by decide +kernel
theorem dX7_judgeOne_86 : decode cX7_judgeOne 86 = .ok (.aload_n 0, 1) := by decide +kernel
theorem dX7_judgeOne_87 : decode cX7_judgeOne 87 = .ok (.getfield 32, 3) := by decide +kernel
theorem dX7_judgeOne_90 : decode cX7_judgeOne 90 = .ok (.aload_n 1, 1) := by decide +kernel
theorem dX7_judgeOne_91 : decode cX7_judgeOne 91 = .ok (.aload_n 2, 1) := by decide +kernel
theorem dX7_judgeOne_92 : decode cX7_judgeOne 92 = .ok (.getfield 113, 3) := by decide +kernel
theorem dX7_judgeOne_95 : decode cX7_judgeOne 95 = .ok (.aload_n 3, 1) := by decide +kernel
theorem dX7_judgeOne_96 : decode cX7_judgeOne 96 = .ok (.getfield 113, 3) := by decide +kernel
theorem dX7_judgeOne_99 : decode cX7_judgeOne 99 = .ok (.aload_n 0, 1) := by decide +kernel
theorem dX7_judgeOne_100 : decode cX7_judgeOne 100 = .ok (.getfield 19, 3) := by decide +kernel
theorem dX7_judgeOne_103 : decode cX7_judgeOne 103 = .ok (.invokevirtual 180, 3) := by decide +kernel
theorem dX7_judgeOne_106 : decode cX7_judgeOne 106 = .ok (.ifCond .eq 7, 3) := by decide +kernel
theorem dX7_judgeOne_109 : decode cX7_judgeOne 109 = .ok (.iconst 1, 1) := by decide +kernel
theorem dX7_judgeOne_110 : decode cX7_judgeOne 110 = .ok (.goto 4, 3) := by decide +kernel
theorem dX7_judgeOne_113 : decode cX7_judgeOne 113 = .ok (.iconst 0, 1) := by decide +kernel
theorem dX7_judgeOne_114 : decode cX7_judgeOne 114 = .ok (.invokevirtual 170, 3) := by decide +kernel
theorem dX7_judgeOne_117 : decode cX7_judgeOne 117 = .ok (.aload_n 0, 1) := by decide +kernel
theorem dX7_judgeOne_118 : decode cX7_judgeOne 118 = .ok (.dup, 1) := by decide +kernel
theorem dX7_judgeOne_119 : decode cX7_judgeOne 119 = .ok (.getfield 47, 3) := by decide +kernel
theorem dX7_judgeOne_122 : decode cX7_judgeOne 122 = .ok (.aload_n 1, 1) := by decide +kernel
theorem dX7_judgeOne_123 : decode cX7_judgeOne 123 = .ok (.iconst 0, 1) := by decide +kernel
theorem dX7_judgeOne_124 : decode cX7_judgeOne 124 = .ok (.invokevirtual 128, 3) := by decide +kernel
theorem dX7_judgeOne_127 : decode cX7_judgeOne 127 = .ok (.aload_n 1, 1) := by decide +kernel
theorem dX7_judgeOne_128 : decode cX7_judgeOne 128 = .ok (.iconst 1, 1) := by decide +kernel
theorem dX7_judgeOne_129 : decode cX7_judgeOne 129 = .ok (.invokevirtual 128, 3) := by decide +kernel
theorem dX7_judgeOne_132 : decode cX7_judgeOne 132 = .ok (.iadd, 1) := by decide +kernel
theorem dX7_judgeOne_133 : decode cX7_judgeOne 133 = .ok (.iadd, 1) := by decide +kernel
theorem dX7_judgeOne_134 : decode cX7_judgeOne 134 = .ok (.putfield 47, 3) := by decide +kernel
theorem dX7_judgeOne_137 : decode cX7_judgeOne 137 = .ok (.aload_n 1, 1) := by decide +kernel
theorem dX7_judgeOne_138 : decode cX7_judgeOne 138 = .ok (.getfield 154, 3) := by decide +kernel
theorem dX7_judgeOne_141 : decode cX7_judgeOne 141 = .ok (.ifCond .ne 7, 3) := by decide +kernel
theorem dX7_judgeOne_144 : decode cX7_judgeOne 144 = .ok (.iconst 1, 1) := by decide +kernel
theorem dX7_judgeOne_145 : decode cX7_judgeOne 145 = .ok (.goto 4, 3) := by decide +kernel
theorem dX7_judgeOne_148 : decode cX7_judgeOne 148 = .ok (.iconst 0, 1) := by decide +kernel
theorem dX7_judgeOne_149 : decode cX7_judgeOne 149 = .ok (.ireturn, 1) := by decide +kernel
theorem dX8_init_0 : decode cX8_init 0 = .ok (.aload_n 0, 1) := by decide +kernel
theorem dX8_init_1 : decode cX8_init 1 = .ok (.invokespecial 1, 3) := by decide +kernel
theorem dX8_init_4 : decode cX8_init 4 = .ok (.aload_n 0, 1) := by decide +kernel
theorem dX8_init_5 : decode cX8_init 5 = .ok (.bipush 60, 2) := by decide +kernel
theorem dX8_init_7 : decode cX8_init 7 = .ok (.newarray .int, 2) := by decide +kernel
theorem dX8_init_9 : decode cX8_init 9 = .ok (.putfield 7, 3) := by decide +kernel
theorem dX8_init_12 : decode cX8_init 12 = .ok (.aload_n 0, 1) := by decide +kernel
theorem dX8_init_13 : decode cX8_init 13 = .ok (.bipush 60, 2) := by decide +kernel
theorem dX8_init_15 : decode cX8_init 15 = .ok (.newarray .int, 2) := by decide +kernel
theorem dX8_init_17 : decode cX8_init 17 = .ok (.putfield 13, 3) := by decide +kernel
theorem dX8_init_20 : decode cX8_init 20 = .ok (.aload_n 0, 1) := by decide +kernel
theorem dX8_init_21 : decode cX8_init 21 = .ok (.bipush 60, 2) := by decide +kernel
theorem dX8_init_23 : decode cX8_init 23 = .ok (.newarray .int, 2) := by decide +kernel
theorem dX8_init_25 : decode cX8_init 25 = .ok (.putfield 16, 3) := by decide +kernel
theorem dX8_init_28 : decode cX8_init 28 = .ok (.aload_n 0, 1) := by decide +kernel
theorem dX8_init_29 : decode cX8_init 29 = .ok (.bipush 60, 2) := by decide +kernel
theorem dX8_init_31 : decode cX8_init 31 = .ok (.newarray .int, 2) := by decide +kernel
theorem dX8_init_33 : decode cX8_init 33 = .ok (.putfield 19, 3) := by decide +kernel
theorem dX8_init_36 : decode cX8_init 36 = .ok (.aload_n 0, 1) := by decide +kernel
theorem dX8_init_37 : decode cX8_init 37 = .ok (.bipush 60, 2) := by decide +kernel
theorem dX8_init_39 : decode cX8_init 39 = .ok (.newarray .boolean, 2) := by decide +kernel
theorem dX8_init_41 : decode cX8_init 41 = .ok (.putfield 22, 3) := by decide +kernel
theorem dX8_init_44 : decode cX8_init 44 = .ok (.aload_n 0, 1) := by decide +kernel
theorem dX8_init_45 : decode cX8_init 45 = .ok (.bipush 8, 2) := by decide +kernel
theorem dX8_init_47 : decode cX8_init 47 = .ok (.newarray .int, 2) := by decide +kernel
theorem dX8_init_49 : decode cX8_init 49 = .ok (.putfield 26, 3) := by decide +kernel
theorem dX8_init_52 : decode cX8_init 52 = .ok (.aload_n 0, 1) := by decide +kernel
theorem dX8_init_53 : decode cX8_init 53 = .ok (.bipush 12, 2) := by decide +kernel
theorem dX8_init_55 : decode cX8_init 55 = .ok (.newarray .int, 2) := by decide +kernel
theorem dX8_init_57 : decode cX8_init 57 = .ok (.putfield 29, 3) := by decide +kernel
theorem dX8_init_60 : decode cX8_init 60 = .ok (.aload_n 0, 1) := by decide +kernel
theorem dX8_init_61 : decode cX8_init 61 = .ok (.bipush 12, 2) := by decide +kernel
theorem dX8_init_63 : decode cX8_init 63 = .ok (.newarray .int, 2) := by decide +kernel
theorem dX8_init_65 : decode cX8_init 65 = .ok (.putfield 32, 3) := by decide +kernel
theorem dX8_init_68 : decode cX8_init 68 = .ok (.aload_n 0, 1) := by decide +kernel
theorem dX8_init_69 : decode cX8_init 69 = .ok (.bipush 12, 2) := by decide +kernel
theorem dX8_init_71 : decode cX8_init 71 = .ok (.newarray .int, 2) := by decide +kernel
theorem dX8_init_73 : decode cX8_init 73 = .ok (.putfield 35, 3) := by decide +kernel
theorem dX8_init_76 : decode cX8_init 76 = .ok (.aload_n 0, 1) := by decide +kernel
theorem dX8_init_77 : decode cX8_init 77 = .ok (.bipush 12, 2) := by decide +kernel
theorem dX8_init_79 : decode cX8_init 79 = .ok (.newarray .int, 2) := by decide +kernel
theorem dX8_init_81 : decode cX8_init 81 = .ok (.putfield 38, 3) := by decide +kernel
theorem dX8_init_84 : decode cX8_init 84 = .ok (.aload_n 0, 1) := by decide +kernel
theorem dX8_init_85 : decode cX8_init 85 = .ok (.bipush 12, 2) := by decide +kernel
theorem dX8_init_87 : decode cX8_init 87 = .ok (.newarray .boolean, 2) := by decide +kernel
theorem dX8_init_89 : decode cX8_init 89 = .ok (.putfield 41, 3) := by decide +kernel
theorem dX8_init_92 : decode cX8_init 92 = .ok (.aload_n 0, 1) := by decide +kernel
theorem dX8_init_93 : decode cX8_init 93 = .ok (.bipush 12, 2) := by decide +kernel
theorem dX8_init_95 : decode cX8_init 95 = .ok (.newarray .int, 2) := by decide +kernel
theorem dX8_init_97 : decode cX8_init 97 = .ok (.putfield 44, 3) := by decide +kernel
theorem dX8_init_100 : decode cX8_init 100 = .ok (.aload_n 0, 1) := by decide +kernel
theorem dX8_init_101 : decode cX8_init 101 = .ok (.bipush 24, 2) := by decide +kernel
theorem dX8_init_103 : decode cX8_init 103 = .ok (.newarray .int, 2) := by decide +kernel
theorem dX8_init_105 : decode cX8_init 105 = .ok (.putfield 47, 3) := by decide +kernel
theorem dX8_init_108 : decode cX8_init 108 = .ok (.aload_n 0, 1) := by decide +kernel
theorem dX8_init_109 : decode cX8_init 109 = .ok (.sipush 2412, 3) := by decide +kernel
theorem dX8_init_112 : decode cX8_init 112 = .ok (.newarray .int, 2) := by decide +kernel
theorem dX8_init_114 : decode cX8_init 114 = .ok (.putfield 50, 3) := by decide +kernel
theorem dX8_init_117 : decode cX8_init 117 = .ok (.aload_n 0, 1) := by decide +kernel
theorem dX8_init_118 : decode cX8_init 118 = .ok (.sipush 2412, 3) := by decide +kernel
theorem dX8_init_121 : decode cX8_init 121 = .ok (.newarray .int, 2) := by decide +kernel
theorem dX8_init_123 : decode cX8_init 123 = .ok (.putfield 53, 3) := by decide +kernel
theorem dX8_init_126 : decode cX8_init 126 = .ok (.aload_n 0, 1) := by decide +kernel
theorem dX8_init_127 : decode cX8_init 127 = .ok (.sipush 2412, 3) := by decide +kernel
theorem dX8_init_130 : decode cX8_init 130 = .ok (.newarray .long, 2) := by decide +kernel
theorem dX8_init_132 : decode cX8_init 132 = .ok (.putfield 56, 3) := by decide +kernel
theorem dX8_init_135 : decode cX8_init 135 = .ok (.aload_n 0, 1) := by decide +kernel
theorem dX8_init_136 : decode cX8_init 136 = .ok (.bipush 12, 2) := by decide +kernel
theorem dX8_init_138 : decode cX8_init 138 = .ok (.newarray .int, 2) := by decide +kernel
theorem dX8_init_140 : decode cX8_init 140 = .ok (.putfield 60, 3) := by decide +kernel
theorem dX8_init_143 : decode cX8_init 143 = .ok (.aload_n 0, 1) := by decide +kernel
theorem dX8_init_144 : decode cX8_init 144 = .ok (.sipush 480, 3) := by decide +kernel
theorem dX8_init_147 : decode cX8_init 147 = .ok (.newarray .int, 2) := by decide +kernel
theorem dX8_init_149 : decode cX8_init 149 = .ok (.putfield 63, 3) := by decide +kernel
theorem dX8_init_152 : decode cX8_init 152 = .ok (.aload_n 0, 1) := by decide +kernel
theorem dX8_init_153 : decode cX8_init 153 = .ok (.sipush 480, 3) := by decide +kernel
theorem dX8_init_156 : decode cX8_init 156 = .ok (.newarray .int, 2) := by decide +kernel
theorem dX8_init_158 : decode cX8_init 158 = .ok (.putfield 66, 3) := by decide +kernel
theorem dX8_init_161 : decode cX8_init 161 = .ok (.aload_n 0, 1) := by decide +kernel
theorem dX8_init_162 : decode cX8_init 162 = .ok (.sipush 480, 3) := by decide +kernel
theorem dX8_init_165 : decode cX8_init 165 = .ok (.newarray .long, 2) := by decide +kernel
theorem dX8_init_167 : decode cX8_init 167 = .ok (.putfield 69, 3) := by decide +kernel
theorem dX8_init_170 : decode cX8_init 170 = .ok (.aload_n 0, 1) := by decide +kernel
theorem dX8_init_171 : decode cX8_init 171 = .ok (.iconst 0, 1) := by decide +kernel
theorem dX8_init_172 : decode cX8_init 172 = .ok (.putfield 72, 3) := by decide +kernel
theorem dX8_init_175 : decode cX8_init 175 = .ok (.return_, 1) := by decide +kernel
theorem dX8_isIn_0 : decode cX8_isIn 0 = .ok (.iload_n 0, 1) := by decide +kernel
theorem dX8_isIn_1 : decode cX8_isIn 1 = .ok (.iload_n 1, 1) := by decide +kernel
theorem dX8_isIn_2 : decode cX8_isIn 2 = .ok (.if_icmp .lt 12, 3) := by decide +kernel
theorem dX8_isIn_5 : decode cX8_isIn 5 = .ok (.iload_n 0, 1) := by decide +kernel
theorem dX8_isIn_6 : decode cX8_isIn 6 = .ok (.iload_n 2, 1) := by decide +kernel
theorem dX8_isIn_7 : decode cX8_isIn 7 = .ok (.if_icmp .gt 7, 3) := by decide +kernel
theorem dX8_isIn_10 : decode cX8_isIn 10 = .ok (.iconst 1, 1) := by decide +kernel
theorem dX8_isIn_11 : decode cX8_isIn 11 = .ok (.goto 4, 3) := by decide +kernel
theorem dX8_isIn_14 : decode cX8_isIn 14 = .ok (.iconst 0, 1) := by decide +kernel
theorem dX8_isIn_15 : decode cX8_isIn 15 = .ok (.ireturn, 1) := by decide +kernel
theorem dX8_isOperator_0 : decode cX8_isOperator 0 = .ok (.iload_n 1, 1) := by decide +kernel
theorem dX8_isOperator_1 : decode cX8_isOperator 1 = .ok (.iconst 0, 1) := by decide +kernel
theorem dX8_isOperator_2 : decode cX8_isOperator 2 = .ok (.aload_n 0, 1) := by decide +kernel
theorem dX8_isOperator_3 : decode cX8_isOperator 3 = .ok (.getfield 72, 3) := by decide +kernel
theorem dX8_isOperator_6 : decode cX8_isOperator 6 = .ok (.iconst 1, 1) := by decide +kernel
theorem dX8_isOperator_7 : decode cX8_isOperator 7 = .ok (.isub, 1) := by decide +kernel
theorem dX8_isOperator_8 : decode cX8_isOperator 8 = .ok (.invokestatic 76, 3) := by decide +kernel
theorem dX8_isOperator_11 : decode cX8_isOperator 11 = .ok (.ireturn, 1) := by decide +kernel
theorem dX8_row_0 : decode cX8_row 0 = .ok (.iload_n 1, 1) := by decide +kernel
theorem dX8_row_1 : decode cX8_row 1 = .ok (.iconst 0, 1) := by decide +kernel
theorem dX8_row_2 : decode cX8_row 2 = .ok (.iconst 2, 1) := by decide +kernel
theorem dX8_row_3 : decode cX8_row 3 = .ok (.invokestatic 76, 3) := by decide +kernel
theorem dX8_row_6 : decode cX8_row 6 = .ok (.ifCond .eq 35, 3) := by decide +kernel
theorem dX8_row_9 : decode cX8_row 9 = .ok (.iload_n 2, 1) := by decide +kernel
theorem dX8_row_10 : decode cX8_row 10 = .ok (.iconst 0, 1) := by decide +kernel
theorem dX8_row_11 : decode cX8_row 11 = .ok (.sipush 999, 3) := by decide +kernel
theorem dX8_row_14 : decode cX8_row 14 = .ok (.invokestatic 76, 3) := by decide +kernel
theorem dX8_row_17 : decode cX8_row 17 = .ok (.ifCond .eq 24, 3) := by decide +kernel
theorem dX8_row_20 : decode cX8_row 20 = .ok (.iload_n 3, 1) := by decide +kernel
theorem dX8_row_21 : decode cX8_row 21 = .ok (.iconst 0, 1) := by decide +kernel
theorem dX8_row_22 : decode cX8_row 22 = .ok (.iconst 5, 1) := by decide +kernel
theorem dX8_row_23 : decode cX8_row 23 = .ok (.invokestatic 76, 3) := by decide +kernel
theorem dX8_row_26 : decode cX8_row 26 = .ok (.ifCond .eq 15, 3) := by decide +kernel
theorem dX8_row_29 : decode cX8_row 29 = .ok (.iload 4, 2) := by decide +kernel
theorem dX8_row_31 : decode cX8_row 31 = .ok (.ldc 80, 2) := by decide +kernel
theorem dX8_row_33 : decode cX8_row 33 = .ok (.ldc 81, 2) := by decide +kernel
theorem dX8_row_35 : decode cX8_row 35 = .ok (.invokestatic 76, 3) := by decide +kernel
theorem dX8_row_38 : decode cX8_row 38 = .ok (.ifCond .ne 5, 3) := by decide +kernel
theorem dX8_row_41 : decode cX8_row 41 = .ok (.iconst (-1), 1) := by decide +kernel
theorem dX8_row_42 : decode cX8_row 42 = .ok (.ireturn, 1) := by decide +kernel
theorem dX8_row_43 : decode cX8_row 43 = .ok (.aload_n 0, 1) := by decide +kernel
theorem dX8_row_44 : decode cX8_row 44 = .ok (.getfield 82, 3) := by decide +kernel
theorem dX8_row_47 : decode cX8_row 47 = .ok (.bipush 60, 2) := by decide +kernel
theorem dX8_row_49 : decode cX8_row 49 = .ok (.if_icmp .ne 6, 3) := by decide +kernel
theorem dX8_row_52 : decode cX8_row 52 = .ok (.bipush (-2), 2) := by decide +kernel
theorem dX8_row_54 : decode cX8_row 54 = .ok (.ireturn, 1) := by decide +kernel
theorem dX8_row_55 : decode cX8_row 55 = .ok (.aload_n 0, 1) := by decide +kernel
theorem dX8_row_56 : decode cX8_row 56 = .ok (.getfield 7, 3) := by decide +kernel
theorem dX8_row_59 : decode cX8_row 59 = .ok (.aload_n 0, 1) := by decide +kernel
theorem dX8_row_60 : decode cX8_row 60 = .ok (.getfield 82, 3) := by decide +kernel
theorem dX8_row_63 : decode cX8_row 63 = .ok (.iload_n 1, 1) := by decide +kernel
theorem dX8_row_64 : decode cX8_row 64 = .ok (.iastore, 1) := by decide +kernel
theorem dX8_row_65 : decode cX8_row 65 = .ok (.aload_n 0, 1) := by decide +kernel
theorem dX8_row_66 : decode cX8_row 66 = .ok (.getfield 13, 3) := by decide +kernel
theorem dX8_row_69 : decode cX8_row 69 = .ok (.aload_n 0, 1) := by decide +kernel
theorem dX8_row_70 : decode cX8_row 70 = .ok (.getfield 82, 3) := by decide +kernel
theorem dX8_row_73 : decode cX8_row 73 = .ok (.iload_n 2, 1) := by decide +kernel
theorem dX8_row_74 : decode cX8_row 74 = .ok (.iastore, 1) := by decide +kernel
theorem dX8_row_75 : decode cX8_row 75 = .ok (.aload_n 0, 1) := by decide +kernel
theorem dX8_row_76 : decode cX8_row 76 = .ok (.getfield 16, 3) := by decide +kernel
theorem dX8_row_79 : decode cX8_row 79 = .ok (.aload_n 0, 1) := by decide +kernel
theorem dX8_row_80 : decode cX8_row 80 = .ok (.getfield 82, 3) := by decide +kernel
theorem dX8_row_83 : decode cX8_row 83 = .ok (.iload_n 3, 1) := by decide +kernel
theorem dX8_row_84 : decode cX8_row 84 = .ok (.iastore, 1) := by decide +kernel
theorem dX8_row_85 : decode cX8_row 85 = .ok (.aload_n 0, 1) := by decide +kernel
theorem dX8_row_86 : decode cX8_row 86 = .ok (.getfield 19, 3) := by decide +kernel
theorem dX8_row_89 : decode cX8_row 89 = .ok (.aload_n 0, 1) := by decide +kernel
theorem dX8_row_90 : decode cX8_row 90 = .ok (.getfield 82, 3) := by decide +kernel
theorem dX8_row_93 : decode cX8_row 93 = .ok (.iload 4, 2) := by decide +kernel
theorem dX8_row_95 : decode cX8_row 95 = .ok (.iastore, 1) := by decide +kernel
theorem dX8_row_96 : decode cX8_row 96 = .ok (.aload_n 0, 1) := by decide +kernel
theorem dX8_row_97 : decode cX8_row 97 = .ok (.getfield 22, 3) := by decide +kernel
theorem dX8_row_100 : decode cX8_row 100 = .ok (.aload_n 0, 1) := by decide +kernel
theorem dX8_row_101 : decode cX8_row 101 = .ok (.getfield 82, 3) := by decide +kernel
theorem dX8_row_104 : decode cX8_row 104 = .ok (.iload 5, 2) := by decide +kernel
theorem dX8_row_106 : decode cX8_row 106 = .ok (.bastore, 1) := by decide +kernel
theorem dX8_row_107 : decode cX8_row 107 = .ok (.aload_n 0, 1) := by decide +kernel
theorem dX8_row_108 : decode cX8_row 108 = .ok (.dup, 1) := by decide +kernel
theorem dX8_row_109 : decode cX8_row 109 = .ok (.getfield 82, 3) := by decide +kernel
theorem dX8_row_112 : decode cX8_row 112 = .ok (.iconst 1, 1) := by decide +kernel
theorem dX8_row_113 : decode cX8_row 113 = .ok (.iadd, 1) := by decide +kernel
theorem dX8_row_114 : decode cX8_row 114 = .ok (.putfield 82, 3) := by decide +kernel
theorem dX8_row_117 : decode cX8_row 117 = .ok (.aload_n 0, 1) := by decide +kernel
theorem dX8_row_118 : decode cX8_row 118 = .ok (.getfield 82, 3) := by decide +kernel
theorem dX8_row_121 : decode cX8_row 121 = .ok (.iconst 1, 1) := by decide +kernel
theorem dX8_row_122 : decode cX8_row 122 = .ok (.isub, 1) := by decide +kernel
theorem dX8_row_123 : decode cX8_row 123 = .ok (.ireturn, 1) := by decide +kernel
theorem dX8_late_0 : decode cX8_late 0 = .ok (.iload_n 1, 1) := by decide +kernel
theorem dX8_late_1 : decode cX8_late 1 = .ok (.iconst 0, 1) := by decide +kernel
theorem dX8_late_2 : decode cX8_late 2 = .ok (.aload_n 0, 1) := by decide +kernel
theorem dX8_late_3 : decode cX8_late 3 = .ok (.getfield 82, 3) := by decide +kernel
theorem dX8_late_6 : decode cX8_late 6 = .ok (.iconst 1, 1) := by decide +kernel
theorem dX8_late_7 : decode cX8_late 7 = .ok (.isub, 1) := by decide +kernel
theorem dX8_late_8 : decode cX8_late 8 = .ok (.invokestatic 76, 3) := by decide +kernel
theorem dX8_late_11 : decode cX8_late 11 = .ok (.ifCond .ne 5, 3) := by decide +kernel
theorem dX8_late_14 : decode cX8_late 14 = .ok (.iconst (-1), 1) := by decide +kernel
theorem dX8_late_15 : decode cX8_late 15 = .ok (.ireturn, 1) := by decide +kernel
theorem dX8_late_16 : decode cX8_late 16 = .ok (.aload_n 0, 1) := by decide +kernel
theorem dX8_late_17 : decode cX8_late 17 = .ok (.getfield 22, 3) := by decide +kernel
theorem dX8_late_20 : decode cX8_late 20 = .ok (.iload_n 1, 1) := by decide +kernel
theorem dX8_late_21 : decode cX8_late 21 = .ok (.baload, 1) := by decide +kernel
theorem dX8_late_22 : decode cX8_late 22 = .ok (.ifCond .eq 7, 3) := by decide +kernel
theorem dX8_late_25 : decode cX8_late 25 = .ok (.iconst 1, 1) := by decide +kernel
theorem dX8_late_26 : decode cX8_late 26 = .ok (.goto 4, 3) := by decide +kernel
theorem dX8_late_29 : decode cX8_late 29 = .ok (.iconst 0, 1) := by decide +kernel
theorem dX8_late_30 : decode cX8_late 30 = .ok (.istore_n 3, 1) := by decide +kernel
theorem dX8_late_31 : decode cX8_late 31 = .ok (.aload_n 0, 1) := by decide +kernel
theorem dX8_late_32 : decode cX8_late 32 = .ok (.getfield 22, 3) := by decide +kernel
theorem dX8_late_35 : decode cX8_late 35 = .ok (.iload_n 1, 1) := by decide +kernel
theorem dX8_late_36 : decode cX8_late 36 = .ok (.iload_n 2, 1) := by decide +kernel
theorem dX8_late_37 : decode cX8_late 37 = .ok (.bastore, 1) := by decide +kernel
theorem dX8_late_38 : decode cX8_late 38 = .ok (.iload_n 3, 1) := by decide +kernel
theorem dX8_late_39 : decode cX8_late 39 = .ok (.ireturn, 1) := by decide +kernel
theorem dX8_item_0 : decode cX8_item 0 = .ok (.iload_n 1, 1) := by decide +kernel
theorem dX8_item_1 : decode cX8_item 1 = .ok (.iconst 0, 1) := by decide +kernel
theorem dX8_item_2 : decode cX8_item 2 = .ok (.bipush 7, 2) := by decide +kernel
theorem dX8_item_4 : decode cX8_item 4 = .ok (.invokestatic 76, 3) := by decide +kernel
theorem dX8_item_7 : decode cX8_item 7 = .ok (.ifCond .ne 5, 3) := by decide +kernel
theorem dX8_item_10 : decode cX8_item 10 = .ok (.iconst (-1), 1) := by decide +kernel
theorem dX8_item_11 : decode cX8_item 11 = .ok (.ireturn, 1) := by decide +kernel
theorem dX8_item_12 : decode cX8_item 12 = .ok (.aload_n 0, 1) := by decide +kernel
theorem dX8_item_13 : decode cX8_item 13 = .ok (.getfield 26, 3) := by decide +kernel
theorem dX8_item_16 : decode cX8_item 16 = .ok (.iload_n 1, 1) := by decide +kernel
theorem dX8_item_17 : decode cX8_item 17 = .ok (.iaload, 1) := by decide +kernel
theorem dX8_item_18 : decode cX8_item 18 = .ok (.istore_n 3, 1) := by decide +kernel
theorem dX8_item_19 : decode cX8_item 19 = .ok (.aload_n 0, 1) := by decide +kernel
theorem dX8_item_20 : decode cX8_item 20 = .ok (.getfield 26, 3) := by decide +kernel
theorem dX8_item_23 : decode cX8_item 23 = .ok (.iload_n 1, 1) := by decide +kernel
theorem dX8_item_24 : decode cX8_item 24 = .ok (.iload_n 2, 1) := by decide +kernel
theorem dX8_item_25 : decode cX8_item 25 = .ok (.iastore, 1) := by decide +kernel
theorem dX8_item_26 : decode cX8_item 26 = .ok (.iload_n 3, 1) := by decide +kernel
theorem dX8_item_27 : decode cX8_item 27 = .ok (.ireturn, 1) := by decide +kernel
theorem dX8_wipe_0 : decode cX8_wipe 0 = .ok (.aload_n 0, 1) := by decide +kernel
theorem dX8_wipe_1 : decode cX8_wipe 1 = .ok (.getfield 82, 3) := by decide +kernel
theorem dX8_wipe_4 : decode cX8_wipe 4 = .ok (.istore_n 1, 1) := by decide +kernel
theorem dX8_wipe_5 : decode cX8_wipe 5 = .ok (.aload_n 0, 1) := by decide +kernel
theorem dX8_wipe_6 : decode cX8_wipe 6 = .ok (.iconst 0, 1) := by decide +kernel
theorem dX8_wipe_7 : decode cX8_wipe 7 = .ok (.putfield 82, 3) := by decide +kernel
theorem dX8_wipe_10 : decode cX8_wipe 10 = .ok (.iload_n 1, 1) := by decide +kernel
theorem dX8_wipe_11 : decode cX8_wipe 11 = .ok (.ireturn, 1) := by decide +kernel
theorem dX8_added_0 : decode cX8_added 0 = .ok (.aload_n 0, 1) := by decide +kernel
theorem dX8_added_1 : decode cX8_added 1 = .ok (.getfield 72, 3) := by decide +kernel
theorem dX8_added_4 : decode cX8_added 4 = .ok (.bipush 12, 2) := by decide +kernel
theorem dX8_added_6 : decode cX8_added 6 = .ok (.if_icmp .ne 6, 3) := by decide +kernel
theorem dX8_added_9 : decode cX8_added 9 = .ok (.bipush (-2), 2) := by decide +kernel
theorem dX8_added_11 : decode cX8_added 11 = .ok (.ireturn, 1) := by decide +kernel
theorem dX8_added_12 : decode cX8_added 12 = .ok (.aload_n 0, 1) := by decide +kernel
theorem dX8_added_13 : decode cX8_added 13 = .ok (.getfield 29, 3) := by decide +kernel
theorem dX8_added_16 : decode cX8_added 16 = .ok (.aload_n 0, 1) := by decide +kernel
theorem dX8_added_17 : decode cX8_added 17 = .ok (.getfield 72, 3) := by decide +kernel
theorem dX8_added_20 : decode cX8_added 20 = .ok (.iload_n 1, 1) := by decide +kernel
theorem dX8_added_21 : decode cX8_added 21 = .ok (.iastore, 1) := by decide +kernel
theorem dX8_added_22 : decode cX8_added 22 = .ok (.aload_n 0, 1) := by decide +kernel
theorem dX8_added_23 : decode cX8_added 23 = .ok (.getfield 32, 3) := by decide +kernel
theorem dX8_added_26 : decode cX8_added 26 = .ok (.aload_n 0, 1) := by decide +kernel
theorem dX8_added_27 : decode cX8_added 27 = .ok (.getfield 72, 3) := by decide +kernel
theorem dX8_added_30 : decode cX8_added 30 = .ok (.iload_n 2, 1) := by decide +kernel
theorem dX8_added_31 : decode cX8_added 31 = .ok (.iastore, 1) := by decide +kernel
theorem dX8_added_32 : decode cX8_added 32 = .ok (.aload_n 0, 1) := by decide +kernel
theorem dX8_added_33 : decode cX8_added 33 = .ok (.getfield 35, 3) := by decide +kernel
theorem dX8_added_36 : decode cX8_added 36 = .ok (.aload_n 0, 1) := by decide +kernel
theorem dX8_added_37 : decode cX8_added 37 = .ok (.getfield 72, 3) := by decide +kernel
theorem dX8_added_40 : decode cX8_added 40 = .ok (.iload_n 3, 1) := by decide +kernel
theorem dX8_added_41 : decode cX8_added 41 = .ok (.iastore, 1) := by decide +kernel
theorem dX8_added_42 : decode cX8_added 42 = .ok (.aload_n 0, 1) := by decide +kernel
theorem dX8_added_43 : decode cX8_added 43 = .ok (.getfield 38, 3) := by decide +kernel
theorem dX8_added_46 : decode cX8_added 46 = .ok (.aload_n 0, 1) := by decide +kernel
theorem dX8_added_47 : decode cX8_added 47 = .ok (.getfield 72, 3) := by decide +kernel
theorem dX8_added_50 : decode cX8_added 50 = .ok (.iload 4, 2) := by decide +kernel
theorem dX8_added_52 : decode cX8_added 52 = .ok (.iastore, 1) := by decide +kernel
theorem dX8_added_53 : decode cX8_added 53 = .ok (.aload_n 0, 1) := by decide +kernel
theorem dX8_added_54 : decode cX8_added 54 = .ok (.getfield 60, 3) := by decide +kernel
theorem dX8_added_57 : decode cX8_added 57 = .ok (.aload_n 0, 1) := by decide +kernel
theorem dX8_added_58 : decode cX8_added 58 = .ok (.getfield 72, 3) := by decide +kernel
theorem dX8_added_61 : decode cX8_added 61 = .ok (.iconst 0, 1) := by decide +kernel
theorem dX8_added_62 : decode cX8_added 62 = .ok (.iastore, 1) := by decide +kernel
theorem dX8_added_63 : decode cX8_added 63 = .ok (.aload_n 0, 1) := by decide +kernel
theorem dX8_added_64 : decode cX8_added 64 = .ok (.iconst 0, 1) := by decide +kernel
theorem dX8_added_65 : decode cX8_added 65 = .ok (.putfield 85, 3) := by decide +kernel
theorem dX8_added_68 : decode cX8_added 68 = .ok (.aload_n 0, 1) := by decide +kernel
theorem dX8_added_69 : decode cX8_added 69 = .ok (.dup, 1) := by decide +kernel
theorem dX8_added_70 : decode cX8_added 70 = .ok (.getfield 72, 3) := by decide +kernel
theorem dX8_added_73 : decode cX8_added 73 = .ok (.iconst 1, 1) := by decide +kernel
theorem dX8_added_74 : decode cX8_added 74 = .ok (.iadd, 1) := by decide +kernel
theorem dX8_added_75 : decode cX8_added 75 = .ok (.putfield 72, 3) := by decide +kernel
theorem dX8_added_78 : decode cX8_added 78 = .ok (.aload_n 0, 1) := by decide +kernel
theorem dX8_added_79 : decode cX8_added 79 = .ok (.getfield 72, 3) := by decide +kernel
theorem dX8_added_82 : decode cX8_added 82 = .ok (.iconst 1, 1) := by decide +kernel
theorem dX8_added_83 : decode cX8_added 83 = .ok (.isub, 1) := by decide +kernel
theorem dX8_added_84 : decode cX8_added 84 = .ok (.ireturn, 1) := by decide +kernel
theorem dX8_read_0 : decode cX8_read 0 = .ok (.iload_n 1, 1) := by decide +kernel
theorem dX8_read_1 : decode cX8_read 1 = .ok (.iconst 0, 1) := by decide +kernel
theorem dX8_read_2 : decode cX8_read 2 = .ok (.iconst 2, 1) := by decide +kernel
theorem dX8_read_3 : decode cX8_read 3 = .ok (.invokestatic 76, 3) := by decide +kernel
theorem dX8_read_6 : decode cX8_read 6 = .ok (.ifCond .eq 14, 3) := by decide +kernel
theorem dX8_read_9 : decode cX8_read 9 = .ok (.aload_n 0, 1) := by decide +kernel
theorem dX8_read_10 : decode cX8_read 10 = .ok (.iconst 0, 1) := by decide +kernel
theorem dX8_read_11 : decode cX8_read 11 = .ok (.iload_n 1, 1) := by decide +kernel
theorem dX8_read_12 : decode cX8_read 12 = .ok (.iconst 0, 1) := by decide +kernel
theorem dX8_read_13 : decode cX8_read 13 = .ok (.iconst 0, 1) := by decide +kernel
theorem dX8_read_14 : decode cX8_read 14 = .ok (.invokevirtual 89, 3) := by decide +kernel
theorem dX8_read_17 : decode cX8_read 17 = .ok (.goto 4, 3) := by decide +kernel
theorem dX8_read_20 : decode cX8_read 20 = .ok (.iconst (-1), 1) := by decide +kernel
theorem dX8_read_21 : decode cX8_read 21 = .ok (.ireturn, 1) := by decide +kernel
theorem dX8_each_0 : decode cX8_each 0 = .ok (.iload_n 1, 1) := by decide +kernel
theorem dX8_each_1 : decode cX8_each 1 = .ok (.iconst 0, 1) := by decide +kernel
theorem dX8_each_2 : decode cX8_each 2 = .ok (.iconst 2, 1) := by decide +kernel
theorem dX8_each_3 : decode cX8_each 3 = .ok (.invokestatic 76, 3) := by decide +kernel
theorem dX8_each_6 : decode cX8_each 6 = .ok (.ifCond .eq 35, 3) := by decide +kernel
theorem dX8_each_9 : decode cX8_each 9 = .ok (.aload_n 0, 1) := by decide +kernel
theorem dX8_each_10 : decode cX8_each 10 = .ok (.iload_n 2, 1) := by decide +kernel
theorem dX8_each_11 : decode cX8_each 11 = .ok (.invokevirtual 93, 3) := by decide +kernel
theorem dX8_each_14 : decode cX8_each 14 = .ok (.ifCond .eq 27, 3) := by decide +kernel
theorem dX8_each_17 : decode cX8_each 17 = .ok (.iload_n 3, 1) := by decide +kernel
theorem dX8_each_18 : decode cX8_each 18 = .ok (.iconst 0, 1) := by decide +kernel
theorem dX8_each_19 : decode cX8_each 19 = .ok (.bipush 6, 2) := by decide +kernel
theorem dX8_each_21 : decode cX8_each 21 = .ok (.invokestatic 76, 3) := by decide +kernel
theorem dX8_each_24 : decode cX8_each 24 = .ok (.ifCond .eq 17, 3) := by decide +kernel
theorem dX8_each_27 : decode cX8_each 27 = .ok (.aload_n 0, 1) := by decide +kernel
theorem dX8_each_28 : decode cX8_each 28 = .ok (.iconst 1, 1) := by decide +kernel
theorem dX8_each_29 : decode cX8_each 29 = .ok (.iload_n 1, 1) := by decide +kernel
theorem dX8_each_30 : decode cX8_each 30 = .ok (.iadd, 1) := by decide +kernel
theorem dX8_each_31 : decode cX8_each 31 = .ok (.iload_n 2, 1) := by decide +kernel
theorem dX8_each_32 : decode cX8_each 32 = .ok (.iload_n 3, 1) := by decide +kernel
theorem dX8_each_33 : decode cX8_each 33 = .ok (.iload 4, 2) := by decide +kernel
theorem dX8_each_35 : decode cX8_each 35 = .ok (.invokevirtual 89, 3) := by decide +kernel
theorem dX8_each_38 : decode cX8_each 38 = .ok (.goto 4, 3) := by decide +kernel
theorem dX8_each_41 : decode cX8_each 41 = .ok (.iconst (-1), 1) := by decide +kernel
theorem dX8_each_42 : decode cX8_each 42 = .ok (.ireturn, 1) := by decide +kernel
theorem dX8_spans_0 : decode cX8_spans 0 = .ok (.aload_n 0, 1) := by decide +kernel
theorem dX8_spans_1 : decode cX8_spans 1 = .ok (.iload_n 1, 1) := by decide +kernel
theorem dX8_spans_2 : decode cX8_spans 2 = .ok (.invokevirtual 93, 3) := by decide +kernel
theorem dX8_spans_5 : decode cX8_spans 5 = .ok (.ifCond .eq 34, 3) := by decide +kernel
theorem dX8_spans_8 : decode cX8_spans 8 = .ok (.iload_n 2, 1) := by decide +kernel
theorem dX8_spans_9 : decode cX8_spans 9 = .ok (.iconst 1, 1) := by decide +kernel
theorem dX8_spans_10 : decode cX8_spans 10 = .ok (.sipush 1000, 3) := by decide +kernel
theorem dX8_spans_13 : decode cX8_spans 13 = .ok (.invokestatic 76, 3) := by decide +kernel
theorem dX8_spans_16 : decode cX8_spans 16 = .ok (.ifCond .eq 23, 3) := by decide +kernel
theorem dX8_spans_19 : decode cX8_spans 19 = .ok (.iload_n 3, 1) := by decide +kernel
