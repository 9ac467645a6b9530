/-! decode rows (claim/NAMES.whole.lean.txt) -/
theorem dX8_spans_20 : decode cX8_spans 20 = .ok (.iconst 0, 1) := by decide +kernel
theorem dX8_spans_21 : decode cX8_spans 21 = .ok (.iconst 4, 1) := by decide +kernel
theorem dX8_spans_22 : decode cX8_spans 22 = .ok (.invokestatic 76, 3) := by decide +kernel
theorem dX8_spans_25 : decode cX8_spans 25 = .ok (.ifCond .eq 14, 3) := by decide +kernel
theorem dX8_spans_28 : decode cX8_spans 28 = .ok (.aload_n 0, 1) := by decide +kernel
theorem dX8_spans_29 : decode cX8_spans 29 = .ok (.iconst 4, 1) := by decide +kernel
theorem dX8_spans_30 : decode cX8_spans 30 = .ok (.iload_n 1, 1) := by decide +kernel
theorem dX8_spans_31 : decode cX8_spans 31 = .ok (.iload_n 3, 1) := by decide +kernel
theorem dX8_spans_32 : decode cX8_spans 32 = .ok (.iload_n 2, 1) := by decide +kernel
theorem dX8_spans_33 : decode cX8_spans 33 = .ok (.invokevirtual 89, 3) := by decide +kernel
theorem dX8_spans_36 : decode cX8_spans 36 = .ok (.goto 4, 3) := by decide +kernel
theorem dX8_spans_39 : decode cX8_spans 39 = .ok (.iconst (-1), 1) := by decide +kernel
theorem dX8_spans_40 : decode cX8_spans 40 = .ok (.ireturn, 1) := by decide +kernel
theorem dX8_join_0 : decode cX8_join 0 = .ok (.aload_n 0, 1) := by decide +kernel
theorem dX8_join_1 : decode cX8_join 1 = .ok (.iload_n 1, 1) := by decide +kernel
theorem dX8_join_2 : decode cX8_join 2 = .ok (.invokevirtual 93, 3) := by decide +kernel
theorem dX8_join_5 : decode cX8_join 5 = .ok (.ifCond .eq 33, 3) := by decide +kernel
theorem dX8_join_8 : decode cX8_join 8 = .ok (.aload_n 0, 1) := by decide +kernel
theorem dX8_join_9 : decode cX8_join 9 = .ok (.iload_n 2, 1) := by decide +kernel
theorem dX8_join_10 : decode cX8_join 10 = .ok (.invokevirtual 93, 3) := by decide +kernel
theorem dX8_join_13 : decode cX8_join 13 = .ok (.ifCond .eq 25, 3) := by decide +kernel
theorem dX8_join_16 : decode cX8_join 16 = .ok (.iload_n 3, 1) := by decide +kernel
theorem dX8_join_17 : decode cX8_join 17 = .ok (.iconst 0, 1) := by decide +kernel
theorem dX8_join_18 : decode cX8_join 18 = .ok (.sipush 1000, 3) := by decide +kernel
theorem dX8_join_21 : decode cX8_join 21 = .ok (.invokestatic 76, 3) := by decide +kernel
theorem dX8_join_24 : decode cX8_join 24 = .ok (.ifCond .eq 14, 3) := by decide +kernel
theorem dX8_join_27 : decode cX8_join 27 = .ok (.aload_n 0, 1) := by decide +kernel
theorem dX8_join_28 : decode cX8_join 28 = .ok (.iconst 5, 1) := by decide +kernel
theorem dX8_join_29 : decode cX8_join 29 = .ok (.iload_n 1, 1) := by decide +kernel
theorem dX8_join_30 : decode cX8_join 30 = .ok (.iload_n 2, 1) := by decide +kernel
theorem dX8_join_31 : decode cX8_join 31 = .ok (.iload_n 3, 1) := by decide +kernel
theorem dX8_join_32 : decode cX8_join 32 = .ok (.invokevirtual 89, 3) := by decide +kernel
theorem dX8_join_35 : decode cX8_join 35 = .ok (.goto 4, 3) := by decide +kernel
theorem dX8_join_38 : decode cX8_join 38 = .ok (.iconst (-1), 1) := by decide +kernel
theorem dX8_join_39 : decode cX8_join 39 = .ok (.ireturn, 1) := by decide +kernel
theorem dX8_meet_0 : decode cX8_meet 0 = .ok (.aload_n 0, 1) := by decide +kernel
theorem dX8_meet_1 : decode cX8_meet 1 = .ok (.iload_n 1, 1) := by decide +kernel
theorem dX8_meet_2 : decode cX8_meet 2 = .ok (.invokevirtual 93, 3) := by decide +kernel
theorem dX8_meet_5 : decode cX8_meet 5 = .ok (.ifCond .eq 23, 3) := by decide +kernel
theorem dX8_meet_8 : decode cX8_meet 8 = .ok (.aload_n 0, 1) := by decide +kernel
theorem dX8_meet_9 : decode cX8_meet 9 = .ok (.iload_n 2, 1) := by decide +kernel
theorem dX8_meet_10 : decode cX8_meet 10 = .ok (.invokevirtual 93, 3) := by decide +kernel
theorem dX8_meet_13 : decode cX8_meet 13 = .ok (.ifCond .eq 15, 3) := by decide +kernel
theorem dX8_meet_16 : decode cX8_meet 16 = .ok (.aload_n 0, 1) := by decide +kernel
theorem dX8_meet_17 : decode cX8_meet 17 = .ok (.bipush 6, 2) := by decide +kernel
theorem dX8_meet_19 : decode cX8_meet 19 = .ok (.iload_n 1, 1) := by decide +kernel
theorem dX8_meet_20 : decode cX8_meet 20 = .ok (.iload_n 2, 1) := by decide +kernel
theorem dX8_meet_21 : decode cX8_meet 21 = .ok (.iconst 0, 1) := by decide +kernel
theorem dX8_meet_22 : decode cX8_meet 22 = .ok (.invokevirtual 89, 3) := by decide +kernel
theorem dX8_meet_25 : decode cX8_meet 25 = .ok (.goto 4, 3) := by decide +kernel
theorem dX8_meet_28 : decode cX8_meet 28 = .ok (.iconst (-1), 1) := by decide +kernel
theorem dX8_meet_29 : decode cX8_meet 29 = .ok (.ireturn, 1) := by decide +kernel
theorem dX8_falls_0 : decode cX8_falls 0 = .ok (.aload_n 0, 1) := by decide +kernel
theorem dX8_falls_1 : decode cX8_falls 1 = .ok (.iload_n 1, 1) := by decide +kernel
theorem dX8_falls_2 : decode cX8_falls 2 = .ok (.invokevirtual 93, 3) := by decide +kernel
theorem dX8_falls_5 : decode cX8_falls 5 = .ok (.ifCond .eq 26, 3) := by decide +kernel
theorem dX8_falls_8 : decode cX8_falls 8 = .ok (.iload_n 2, 1) := by decide +kernel
theorem dX8_falls_9 : decode cX8_falls 9 = .ok (.iconst 0, 1) := by decide +kernel
theorem dX8_falls_10 : decode cX8_falls 10 = .ok (.sipush 1000, 3) := by decide +kernel
theorem dX8_falls_13 : decode cX8_falls 13 = .ok (.invokestatic 76, 3) := by decide +kernel
theorem dX8_falls_16 : decode cX8_falls 16 = .ok (.ifCond .eq 15, 3) := by decide +kernel
theorem dX8_falls_19 : decode cX8_falls 19 = .ok (.aload_n 0, 1) := by decide +kernel
theorem dX8_falls_20 : decode cX8_falls 20 = .ok (.bipush 7, 2) := by decide +kernel
theorem dX8_falls_22 : decode cX8_falls 22 = .ok (.iload_n 1, 1) := by decide +kernel
theorem dX8_falls_23 : decode cX8_falls 23 = .ok (.iconst 0, 1) := by decide +kernel
theorem dX8_falls_24 : decode cX8_falls 24 = .ok (.iload_n 2, 1) := by decide +kernel
theorem dX8_falls_25 : decode cX8_falls 25 = .ok (.invokevirtual 89, 3) := by decide +kernel
theorem dX8_falls_28 : decode cX8_falls 28 = .ok (.goto 4, 3) := by decide +kernel
theorem dX8_falls_31 : decode cX8_falls 31 = .ok (.iconst (-1), 1) := by decide +kernel
theorem dX8_falls_32 : decode cX8_falls 32 = .ok (.ireturn, 1) := by decide +kernel
theorem dX8_first_0 : decode cX8_first 0 = .ok (.aload_n 0, 1) := by decide +kernel
theorem dX8_first_1 : decode cX8_first 1 = .ok (.iload_n 1, 1) := by decide +kernel
theorem dX8_first_2 : decode cX8_first 2 = .ok (.invokevirtual 93, 3) := by decide +kernel
theorem dX8_first_5 : decode cX8_first 5 = .ok (.ifCond .eq 26, 3) := by decide +kernel
theorem dX8_first_8 : decode cX8_first 8 = .ok (.iload_n 2, 1) := by decide +kernel
theorem dX8_first_9 : decode cX8_first 9 = .ok (.iconst 0, 1) := by decide +kernel
theorem dX8_first_10 : decode cX8_first 10 = .ok (.sipush 200, 3) := by decide +kernel
theorem dX8_first_13 : decode cX8_first 13 = .ok (.invokestatic 76, 3) := by decide +kernel
theorem dX8_first_16 : decode cX8_first 16 = .ok (.ifCond .eq 15, 3) := by decide +kernel
theorem dX8_first_19 : decode cX8_first 19 = .ok (.aload_n 0, 1) := by decide +kernel
theorem dX8_first_20 : decode cX8_first 20 = .ok (.bipush 8, 2) := by decide +kernel
theorem dX8_first_22 : decode cX8_first 22 = .ok (.iload_n 1, 1) := by decide +kernel
theorem dX8_first_23 : decode cX8_first 23 = .ok (.iconst 0, 1) := by decide +kernel
theorem dX8_first_24 : decode cX8_first 24 = .ok (.iload_n 2, 1) := by decide +kernel
theorem dX8_first_25 : decode cX8_first 25 = .ok (.invokevirtual 89, 3) := by decide +kernel
theorem dX8_first_28 : decode cX8_first 28 = .ok (.goto 4, 3) := by decide +kernel
theorem dX8_first_31 : decode cX8_first 31 = .ok (.iconst (-1), 1) := by decide +kernel
theorem dX8_first_32 : decode cX8_first 32 = .ok (.ireturn, 1) := by decide +kernel
theorem dX8_drop_0 : decode cX8_drop 0 = .ok (.aload_n 0, 1) := by decide +kernel
theorem dX8_drop_1 : decode cX8_drop 1 = .ok (.getfield 72, 3) := by decide +kernel
theorem dX8_drop_4 : decode cX8_drop 4 = .ok (.ifCond .ne 6, 3) := by decide +kernel
theorem dX8_drop_7 : decode cX8_drop 7 = .ok (.bipush (-3), 2) := by decide +kernel
theorem dX8_drop_9 : decode cX8_drop 9 = .ok (.ireturn, 1) := by decide +kernel
theorem dX8_drop_10 : decode cX8_drop 10 = .ok (.aload_n 0, 1) := by decide +kernel
theorem dX8_drop_11 : decode cX8_drop 11 = .ok (.dup, 1) := by decide +kernel
theorem dX8_drop_12 : decode cX8_drop 12 = .ok (.getfield 72, 3) := by decide +kernel
theorem dX8_drop_15 : decode cX8_drop 15 = .ok (.iconst 1, 1) := by decide +kernel
theorem dX8_drop_16 : decode cX8_drop 16 = .ok (.isub, 1) := by decide +kernel
theorem dX8_drop_17 : decode cX8_drop 17 = .ok (.putfield 72, 3) := by decide +kernel
theorem dX8_drop_20 : decode cX8_drop 20 = .ok (.aload_n 0, 1) := by decide +kernel
theorem dX8_drop_21 : decode cX8_drop 21 = .ok (.iconst 0, 1) := by decide +kernel
theorem dX8_drop_22 : decode cX8_drop 22 = .ok (.putfield 85, 3) := by decide +kernel
theorem dX8_drop_25 : decode cX8_drop 25 = .ok (.aload_n 0, 1) := by decide +kernel
theorem dX8_drop_26 : decode cX8_drop 26 = .ok (.getfield 72, 3) := by decide +kernel
theorem dX8_drop_29 : decode cX8_drop 29 = .ok (.ireturn, 1) := by decide +kernel
theorem dX8_lay_0 : decode cX8_lay 0 = .ok (.aload_n 0, 1) := by decide +kernel
theorem dX8_lay_1 : decode cX8_lay 1 = .ok (.getfield 44, 3) := by decide +kernel
theorem dX8_lay_4 : decode cX8_lay 4 = .ok (.aload_n 0, 1) := by decide +kernel
theorem dX8_lay_5 : decode cX8_lay 5 = .ok (.getfield 97, 3) := by decide +kernel
theorem dX8_lay_8 : decode cX8_lay 8 = .ok (.iaload, 1) := by decide +kernel
theorem dX8_lay_9 : decode cX8_lay 9 = .ok (.sipush 200, 3) := by decide +kernel
theorem dX8_lay_12 : decode cX8_lay 12 = .ok (.if_icmp .ne 14, 3) := by decide +kernel
theorem dX8_lay_15 : decode cX8_lay 15 = .ok (.aload_n 0, 1) := by decide +kernel
theorem dX8_lay_16 : decode cX8_lay 16 = .ok (.getfield 41, 3) := by decide +kernel
theorem dX8_lay_19 : decode cX8_lay 19 = .ok (.aload_n 0, 1) := by decide +kernel
theorem dX8_lay_20 : decode cX8_lay 20 = .ok (.getfield 97, 3) := by decide +kernel
theorem dX8_lay_23 : decode cX8_lay 23 = .ok (.iconst 1, 1) := by decide +kernel
theorem dX8_lay_24 : decode cX8_lay 24 = .ok (.bastore, 1) := by decide +kernel
theorem dX8_lay_25 : decode cX8_lay 25 = .ok (.return_, 1) := by decide +kernel
theorem dX8_lay_26 : decode cX8_lay 26 = .ok (.sipush 201, 3) := by decide +kernel
theorem dX8_lay_29 : decode cX8_lay 29 = .ok (.aload_n 0, 1) := by decide +kernel
theorem dX8_lay_30 : decode cX8_lay 30 = .ok (.getfield 97, 3) := by decide +kernel
theorem dX8_lay_33 : decode cX8_lay 33 = .ok (.imul, 1) := by decide +kernel
theorem dX8_lay_34 : decode cX8_lay 34 = .ok (.aload_n 0, 1) := by decide +kernel
theorem dX8_lay_35 : decode cX8_lay 35 = .ok (.getfield 44, 3) := by decide +kernel
theorem dX8_lay_38 : decode cX8_lay 38 = .ok (.aload_n 0, 1) := by decide +kernel
theorem dX8_lay_39 : decode cX8_lay 39 = .ok (.getfield 97, 3) := by decide +kernel
theorem dX8_lay_42 : decode cX8_lay 42 = .ok (.iaload, 1) := by decide +kernel
theorem dX8_lay_43 : decode cX8_lay 43 = .ok (.iadd, 1) := by decide +kernel
theorem dX8_lay_44 : decode cX8_lay 44 = .ok (.istore 5, 2) := by decide +kernel
theorem dX8_lay_46 : decode cX8_lay 46 = .ok (.aload_n 0, 1) := by decide +kernel
theorem dX8_lay_47 : decode cX8_lay 47 = .ok (.getfield 50, 3) := by decide +kernel
theorem dX8_lay_50 : decode cX8_lay 50 = .ok (.iload 5, 2) := by decide +kernel
theorem dX8_lay_52 : decode cX8_lay 52 = .ok (.iload_n 1, 1) := by decide +kernel
theorem dX8_lay_53 : decode cX8_lay 53 = .ok (.iastore, 1) := by decide +kernel
theorem dX8_lay_54 : decode cX8_lay 54 = .ok (.aload_n 0, 1) := by decide +kernel
theorem dX8_lay_55 : decode cX8_lay 55 = .ok (.getfield 53, 3) := by decide +kernel
theorem dX8_lay_58 : decode cX8_lay 58 = .ok (.iload 5, 2) := by decide +kernel
theorem dX8_lay_60 : decode cX8_lay 60 = .ok (.iload_n 2, 1) := by decide +kernel
theorem dX8_lay_61 : decode cX8_lay 61 = .ok (.iastore, 1) := by decide +kernel
theorem dX8_lay_62 : decode cX8_lay 62 = .ok (.aload_n 0, 1) := by decide +kernel
theorem dX8_lay_63 : decode cX8_lay 63 = .ok (.getfield 56, 3) := by decide +kernel
theorem dX8_lay_66 : decode cX8_lay 66 = .ok (.iload 5, 2) := by decide +kernel
theorem dX8_lay_68 : decode cX8_lay 68 = .ok (.lload_n 3, 1) := by decide +kernel
theorem dX8_lay_69 : decode cX8_lay 69 = .ok (.lastore, 1) := by decide +kernel
theorem dX8_lay_70 : decode cX8_lay 70 = .ok (.aload_n 0, 1) := by decide +kernel
theorem dX8_lay_71 : decode cX8_lay 71 = .ok (.getfield 44, 3) := by decide +kernel
theorem dX8_lay_74 : decode cX8_lay 74 = .ok (.aload_n 0, 1) := by decide +kernel
theorem dX8_lay_75 : decode cX8_lay 75 = .ok (.getfield 97, 3) := by decide +kernel
theorem dX8_lay_78 : decode cX8_lay 78 = .ok (.dup2, 1) := by decide +kernel
theorem dX8_lay_79 : decode cX8_lay 79 = .ok (.iaload, 1) := by decide +kernel
theorem dX8_lay_80 : decode cX8_lay 80 = .ok (.iconst 1, 1) := by decide +kernel
theorem dX8_lay_81 : decode cX8_lay 81 = .ok (.iadd, 1) := by decide +kernel
theorem dX8_lay_82 : decode cX8_lay 82 = .ok (.iastore, 1) := by decide +kernel
theorem dX8_lay_83 : decode cX8_lay 83 = .ok (.return_, 1) := by decide +kernel
theorem dX8_rise_0 : decode cX8_rise 0 = .ok (.sipush 201, 3) := by decide +kernel
theorem dX8_rise_3 : decode cX8_rise 3 = .ok (.aload_n 0, 1) := by decide +kernel
theorem dX8_rise_4 : decode cX8_rise 4 = .ok (.getfield 97, 3) := by decide +kernel
theorem dX8_rise_7 : decode cX8_rise 7 = .ok (.imul, 1) := by decide +kernel
theorem dX8_rise_8 : decode cX8_rise 8 = .ok (.istore_n 2, 1) := by decide +kernel
theorem dX8_rise_9 : decode cX8_rise 9 = .ok (.iload_n 2, 1) := by decide +kernel
theorem dX8_rise_10 : decode cX8_rise 10 = .ok (.iconst 1, 1) := by decide +kernel
theorem dX8_rise_11 : decode cX8_rise 11 = .ok (.iadd, 1) := by decide +kernel
theorem dX8_rise_12 : decode cX8_rise 12 = .ok (.istore_n 3, 1) := by decide +kernel
theorem dX8_rise_13 : decode cX8_rise 13 = .ok (.iload_n 3, 1) := by decide +kernel
theorem dX8_rise_14 : decode cX8_rise 14 = .ok (.iload_n 2, 1) := by decide +kernel
theorem dX8_rise_15 : decode cX8_rise 15 = .ok (.aload_n 0, 1) := by decide +kernel
theorem dX8_rise_16 : decode cX8_rise 16 = .ok (.getfield 44, 3) := by decide +kernel
theorem dX8_rise_19 : decode cX8_rise 19 = .ok (.aload_n 0, 1) := by decide +kernel
theorem dX8_rise_20 : decode cX8_rise 20 = .ok (.getfield 97, 3) := by decide +kernel
theorem dX8_rise_23 : decode cX8_rise 23 = .ok (.iaload, 1) := by decide +kernel
theorem dX8_rise_24 : decode cX8_rise 24 = .ok (.iadd, 1) := by decide +kernel
theorem dX8_rise_25 : decode cX8_rise 25 = .ok (.if_icmp .ge 169, 3) := by decide +kernel
theorem dX8_rise_28 : decode cX8_rise 28 = .ok (.aload_n 0, 1) := by decide +kernel
theorem dX8_rise_29 : decode cX8_rise 29 = .ok (.getfield 50, 3) := by decide +kernel
theorem dX8_rise_32 : decode cX8_rise 32 = .ok (.iload_n 3, 1) := by decide +kernel
theorem dX8_rise_33 : decode cX8_rise 33 = .ok (.iaload, 1) := by decide +kernel
theorem dX8_rise_34 : decode cX8_rise 34 = .ok (.istore 4, 2) := by decide +kernel
theorem dX8_rise_36 : decode cX8_rise 36 = .ok (.aload_n 0, 1) := by decide +kernel
theorem dX8_rise_37 : decode cX8_rise 37 = .ok (.getfield 53, 3) := by decide +kernel
theorem dX8_rise_40 : decode cX8_rise 40 = .ok (.iload_n 3, 1) := by decide +kernel
theorem dX8_rise_41 : decode cX8_rise 41 = .ok (.iaload, 1) := by decide +kernel
theorem dX8_rise_42 : decode cX8_rise 42 = .ok (.istore 5, 2) := by decide +kernel
theorem dX8_rise_44 : decode cX8_rise 44 = .ok (.aload_n 0, 1) := by decide +kernel
theorem dX8_rise_45 : decode cX8_rise 45 = .ok (.getfield 56, 3) := by decide +kernel
theorem dX8_rise_48 : decode cX8_rise 48 = .ok (.iload_n 3, 1) := by decide +kernel
theorem dX8_rise_49 : decode cX8_rise 49 = .ok (.laload, 1) := by decide +kernel
theorem dX8_rise_50 : decode cX8_rise 50 = .ok (.lstore 6, 2) := by decide +kernel
theorem dX8_rise_52 : decode cX8_rise 52 = .ok (.iload_n 3, 1) := by decide +kernel
theorem dX8_rise_53 : decode cX8_rise 53 = .ok (.istore 8, 2) := by decide +kernel
theorem dX8_rise_55 : decode cX8_rise 55 = .ok (.iload 8, 2) := by decide +kernel
theorem dX8_rise_57 : decode cX8_rise 57 = .ok (.iload_n 2, 1) := by decide +kernel
theorem dX8_rise_58 : decode cX8_rise 58 = .ok (.if_icmp .le 103, 3) := by decide +kernel
theorem dX8_rise_61 : decode cX8_rise 61 = .ok (.aload_n 0, 1) := by decide +kernel
theorem dX8_rise_62 : decode cX8_rise 62 = .ok (.getfield 50, 3) := by decide +kernel
theorem dX8_rise_65 : decode cX8_rise 65 = .ok (.iload 8, 2) := by decide +kernel
theorem dX8_rise_67 : decode cX8_rise 67 = .ok (.iconst 1, 1) := by decide +kernel
theorem dX8_rise_68 : decode cX8_rise 68 = .ok (.isub, 1) := by decide +kernel
theorem dX8_rise_69 : decode cX8_rise 69 = .ok (.iaload, 1) := by decide +kernel
theorem dX8_rise_70 : decode cX8_rise 70 = .ok (.iload 4, 2) := by decide +kernel
theorem dX8_rise_72 : decode cX8_rise 72 = .ok (.if_icmp .gt 35, 3) := by decide +kernel
theorem dX8_rise_75 : decode cX8_rise 75 = .ok (.iload_n 1, 1) := by decide +kernel
theorem dX8_rise_76 : decode cX8_rise 76 = .ok (.ifCond .eq 85, 3) := by decide +kernel
theorem dX8_rise_79 : decode cX8_rise 79 = .ok (.aload_n 0, 1) := by decide +kernel
theorem dX8_rise_80 : decode cX8_rise 80 = .ok (.getfield 50, 3) := by decide +kernel
theorem dX8_rise_83 : decode cX8_rise 83 = .ok (.iload 8, 2) := by decide +kernel
theorem dX8_rise_85 : decode cX8_rise 85 = .ok (.iconst 1, 1) := by decide +kernel
theorem dX8_rise_86 : decode cX8_rise 86 = .ok (.isub, 1) := by decide +kernel
theorem dX8_rise_87 : decode cX8_rise 87 = .ok (.iaload, 1) := by decide +kernel
theorem dX8_rise_88 : decode cX8_rise 88 = .ok (.iload 4, 2) := by decide +kernel
theorem dX8_rise_90 : decode cX8_rise 90 = .ok (.if_icmp .ne 71, 3) := by decide +kernel
theorem dX8_rise_93 : decode cX8_rise 93 = .ok (.aload_n 0, 1) := by decide +kernel
theorem dX8_rise_94 : decode cX8_rise 94 = .ok (.getfield 53, 3) := by decide +kernel
theorem dX8_rise_97 : decode cX8_rise 97 = .ok (.iload 8, 2) := by decide +kernel
theorem dX8_rise_99 : decode cX8_rise 99 = .ok (.iconst 1, 1) := by decide +kernel
theorem dX8_rise_100 : decode cX8_rise 100 = .ok (.isub, 1) := by decide +kernel
theorem dX8_rise_101 : decode cX8_rise 101 = .ok (.iaload, 1) := by decide +kernel
theorem dX8_rise_102 : decode cX8_rise 102 = .ok (.iload 5, 2) := by decide +kernel
theorem dX8_rise_104 : decode cX8_rise 104 = .ok (.if_icmp .le 57, 3) := by decide +kernel
theorem dX8_rise_107 : decode cX8_rise 107 = .ok (.aload_n 0, 1) := by decide +kernel
theorem dX8_rise_108 : decode cX8_rise 108 = .ok (.getfield 50, 3) := by decide +kernel
theorem dX8_rise_111 : decode cX8_rise 111 = .ok (.iload 8, 2) := by decide +kernel
theorem dX8_rise_113 : decode cX8_rise 113 = .ok (.aload_n 0, 1) := by decide +kernel
theorem dX8_rise_114 : decode cX8_rise 114 = .ok (.getfield 50, 3) := by decide +kernel
theorem dX8_rise_117 : decode cX8_rise 117 = .ok (.iload 8, 2) := by decide +kernel
theorem dX8_rise_119 : decode cX8_rise 119 = .ok (.iconst 1, 1) := by decide +kernel
theorem dX8_rise_120 : decode cX8_rise 120 = .ok (.isub, 1) := by decide +kernel
theorem dX8_rise_121 : decode cX8_rise 121 = .ok (.iaload, 1) := by decide +kernel
theorem dX8_rise_122 : decode cX8_rise 122 = .ok (.iastore, 1) := by decide +kernel
theorem dX8_rise_123 : decode cX8_rise 123 = .ok (.aload_n 0, 1) := by decide +kernel
theorem dX8_rise_124 : decode cX8_rise 124 = .ok (.getfield 53, 3) := by decide +kernel
theorem dX8_rise_127 : decode cX8_rise 127 = .ok (.iload 8, 2) := by decide +kernel
theorem dX8_rise_129 : decode cX8_rise 129 = .ok (.aload_n 0, 1) := by decide +kernel
theorem dX8_rise_130 : decode cX8_rise 130 = .ok (.getfield 53, 3) := by decide +kernel
theorem dX8_rise_133 : decode cX8_rise 133 = .ok (.iload 8, 2) := by decide +kernel
theorem dX8_rise_135 : decode cX8_rise 135 = .ok (.iconst 1, 1) := by decide +kernel
theorem dX8_rise_136 : decode cX8_rise 136 = .ok (.isub, 1) := by decide +kernel
theorem dX8_rise_137 : decode cX8_rise 137 = .ok (.iaload, 1) := by decide +kernel
theorem dX8_rise_138 : decode cX8_rise 138 = .ok (.iastore, 1) := by decide +kernel
theorem dX8_rise_139 : decode cX8_rise 139 = .ok (.aload_n 0, 1) := by decide +kernel
theorem dX8_rise_140 : decode cX8_rise 140 = .ok (.getfield 56, 3) := by decide +kernel
theorem dX8_rise_143 : decode cX8_rise 143 = .ok (.iload 8, 2) := by decide +kernel
theorem dX8_rise_145 : decode cX8_rise 145 = .ok (.aload_n 0, 1) := by decide +kernel
theorem dX8_rise_146 : decode cX8_rise 146 = .ok (.getfield 56, 3) := by decide +kernel
theorem dX8_rise_149 : decode cX8_rise 149 = .ok (.iload 8, 2) := by decide +kernel
theorem dX8_rise_151 : decode cX8_rise 151 = .ok (.iconst 1, 1) := by decide +kernel
theorem dX8_rise_152 : decode cX8_rise 152 = .ok (.isub, 1) := by decide +kernel
theorem dX8_rise_153 : decode cX8_rise 153 = .ok (.laload, 1) := by decide +kernel
theorem dX8_rise_154 : decode cX8_rise 154 = .ok (.lastore, 1) := by decide +kernel
theorem dX8_rise_155 : decode cX8_rise 155 = .ok (.iinc 8 (-1), 3) := by decide +kernel
theorem dX8_rise_158 : decode cX8_rise 158 = .ok (.goto (-103), 3) := by decide +kernel
theorem dX8_rise_161 : decode cX8_rise 161 = .ok (.aload_n 0, 1) := by decide +kernel
theorem dX8_rise_162 : decode cX8_rise 162 = .ok (.getfield 50, 3) := by decide +kernel
theorem dX8_rise_165 : decode cX8_rise 165 = .ok (.iload 8, 2) := by decide +kernel
theorem dX8_rise_167 : decode cX8_rise 167 = .ok (.iload 4, 2) := by decide +kernel
theorem dX8_rise_169 : decode cX8_rise 169 = .ok (.iastore, 1) := by decide +kernel
theorem dX8_rise_170 : decode cX8_rise 170 = .ok (.aload_n 0, 1) := by decide +kernel
theorem dX8_rise_171 : decode cX8_rise 171 = .ok (.getfield 53, 3) := by decide +kernel
theorem dX8_rise_174 : decode cX8_rise 174 = .ok (.iload 8, 2) := by decide +kernel
theorem dX8_rise_176 : decode cX8_rise 176 = .ok (.iload 5, 2) := by decide +kernel
theorem dX8_rise_178 : decode cX8_rise 178 = .ok (.iastore, 1) := by decide +kernel
theorem dX8_rise_179 : decode cX8_rise 179 = .ok (.aload_n 0, 1) := by decide +kernel
theorem dX8_rise_180 : decode cX8_rise 180 = .ok (.getfield 56, 3) := by decide +kernel
theorem dX8_rise_183 : decode cX8_rise 183 = .ok (.iload 8, 2) := by decide +kernel
theorem dX8_rise_185 : decode cX8_rise 185 = .ok (.lload 6, 2) := by decide +kernel
theorem dX8_rise_187 : decode cX8_rise 187 = .ok (.lastore, 1) := by decide +kernel
theorem dX8_rise_188 : decode cX8_rise 188 = .ok (.iinc 3 1, 3) := by decide +kernel
theorem dX8_rise_191 : decode cX8_rise 191 = .ok (.goto (-178), 3) := by decide +kernel
theorem dX8_rise_194 : decode cX8_rise 194 = .ok (.return_, 1) := by decide +kernel
theorem dX8_worth_0 : decode cX8_worth 0 = .ok (.aload_n 0, 1) := by decide +kernel
theorem dX8_worth_1 : decode cX8_worth 1 = .ok (.bipush (-4), 2) := by decide +kernel
theorem dX8_worth_3 : decode cX8_worth 3 = .ok (.putfield 100, 3) := by decide +kernel
theorem dX8_worth_6 : decode cX8_worth 6 = .ok (.iload_n 1, 1) := by decide +kernel
theorem dX8_worth_7 : decode cX8_worth 7 = .ok (.tableswitch 113 0 5 #[37, 42, 47, 47, 78, 108], 37) := by decide +kernel
theorem dX8_worth_44 : decode cX8_worth 44 = .ok (.lload_n 2, 1) := by decide +kernel
theorem dX8_worth_45 : decode cX8_worth 45 = .ok (.lload 4, 2) := by decide +kernel
theorem dX8_worth_47 : decode cX8_worth 47 = .ok (.ladd, 1) := by decide +kernel
theorem dX8_worth_48 : decode cX8_worth 48 = .ok (.lreturn, 1) := by decide +kernel
theorem dX8_worth_49 : decode cX8_worth 49 = .ok (.lload_n 2, 1) := by decide +kernel
theorem dX8_worth_50 : decode cX8_worth 50 = .ok (.lload 4, 2) := by decide +kernel
theorem dX8_worth_52 : decode cX8_worth 52 = .ok (.lmul, 1) := by decide +kernel
theorem dX8_worth_53 : decode cX8_worth 53 = .ok (.lreturn, 1) := by decide +kernel
theorem dX8_worth_54 : decode cX8_worth 54 = .ok (.lload 4, 2) := by decide +kernel
theorem dX8_worth_56 : decode cX8_worth 56 = .ok (.lconst 0, 1) := by decide +kernel
theorem dX8_worth_57 : decode cX8_worth 57 = .ok (.lcmp, 1) := by decide +kernel
theorem dX8_worth_58 : decode cX8_worth 58 = .ok (.ifCond .ne 10, 3) := by decide +kernel
theorem dX8_worth_61 : decode cX8_worth 61 = .ok (.aload_n 0, 1) := by decide +kernel
theorem dX8_worth_62 : decode cX8_worth 62 = .ok (.iconst 0, 1) := by decide +kernel
theorem dX8_worth_63 : decode cX8_worth 63 = .ok (.putfield 100, 3) := by decide +kernel
theorem dX8_worth_66 : decode cX8_worth 66 = .ok (.lconst 0, 1) := by decide +kernel
theorem dX8_worth_67 : decode cX8_worth 67 = .ok (.lreturn, 1) := by decide +kernel
theorem dX8_worth_68 : decode cX8_worth 68 = .ok (.iload_n 1, 1) := by decide +kernel
theorem dX8_worth_69 : decode cX8_worth 69 = .ok (.iconst 2, 1) := by decide +kernel
theorem dX8_worth_70 : decode cX8_worth 70 = .ok (.if_icmp .ne 10, 3) := by decide +kernel
theorem dX8_worth_73 : decode cX8_worth 73 = .ok (.lload_n 2, 1) := by decide +kernel
theorem dX8_worth_74 : decode cX8_worth 74 = .ok (.lload 4, 2) := by decide +kernel
theorem dX8_worth_76 : decode cX8_worth 76 = .ok (.ldiv, 1) := by decide +kernel
theorem dX8_worth_77 : decode cX8_worth 77 = .ok (.goto 7, 3) := by decide +kernel
theorem dX8_worth_80 : decode cX8_worth 80 = .ok (.lload_n 2, 1) := by decide +kernel
theorem dX8_worth_81 : decode cX8_worth 81 = .ok (.lload 4, 2) := by decide +kernel
theorem dX8_worth_83 : decode cX8_worth 83 = .ok (.lrem, 1) := by decide +kernel
theorem dX8_worth_84 : decode cX8_worth 84 = .ok (.lreturn, 1) := by decide +kernel
theorem dX8_worth_85 : decode cX8_worth 85 = .ok (.lload_n 2, 1) := by decide +kernel
theorem dX8_worth_86 : decode cX8_worth 86 = .ok (.lconst 0, 1) := by decide +kernel
theorem dX8_worth_87 : decode cX8_worth 87 = .ok (.lcmp, 1) := by decide +kernel
theorem dX8_worth_88 : decode cX8_worth 88 = .ok (.ifCond .lt 11, 3) := by decide +kernel
theorem dX8_worth_91 : decode cX8_worth 91 = .ok (.lload_n 2, 1) := by decide +kernel
theorem dX8_worth_92 : decode cX8_worth 92 = .ok (.ldc2_w 103, 3) := by decide +kernel
theorem dX8_worth_95 : decode cX8_worth 95 = .ok (.lcmp, 1) := by decide +kernel
theorem dX8_worth_96 : decode cX8_worth 96 = .ok (.ifCond .le 10, 3) := by decide +kernel
theorem dX8_worth_99 : decode cX8_worth 99 = .ok (.aload_n 0, 1) := by decide +kernel
theorem dX8_worth_100 : decode cX8_worth 100 = .ok (.iconst 1, 1) := by decide +kernel
theorem dX8_worth_101 : decode cX8_worth 101 = .ok (.putfield 100, 3) := by decide +kernel
theorem dX8_worth_104 : decode cX8_worth 104 = .ok (.lconst 0, 1) := by decide +kernel
theorem dX8_worth_105 : decode cX8_worth 105 = .ok (.lreturn, 1) := by decide +kernel
theorem dX8_worth_106 : decode cX8_worth 106 = .ok (.aload_n 0, 1) := by decide +kernel
theorem dX8_worth_107 : decode cX8_worth 107 = .ok (.getfield 26, 3) := by decide +kernel
theorem dX8_worth_110 : decode cX8_worth 110 = .ok (.lload_n 2, 1) := by decide +kernel
theorem dX8_worth_111 : decode cX8_worth 111 = .ok (.l2i, 1) := by decide +kernel
theorem dX8_worth_112 : decode cX8_worth 112 = .ok (.iaload, 1) := by decide +kernel
theorem dX8_worth_113 : decode cX8_worth 113 = .ok (.i2l, 1) := by decide +kernel
theorem dX8_worth_114 : decode cX8_worth 114 = .ok (.lreturn, 1) := by decide +kernel
theorem dX8_worth_115 : decode cX8_worth 115 = .ok (.lload 4, 2) := by decide +kernel
theorem dX8_worth_117 : decode cX8_worth 117 = .ok (.lload_n 2, 1) := by decide +kernel
theorem dX8_worth_118 : decode cX8_worth 118 = .ok (.lsub, 1) := by decide +kernel
theorem dX8_worth_119 : decode cX8_worth 119 = .ok (.lreturn, 1) := by decide +kernel
theorem dX8_worth_120 : decode cX8_worth 120 = .ok (.lload_n 2, 1) := by decide +kernel
theorem dX8_worth_121 : decode cX8_worth 121 = .ok (.l2i, 1) := by decide +kernel
theorem dX8_worth_122 : decode cX8_worth 122 = .ok (.i2b, 1) := by decide +kernel
theorem dX8_worth_123 : decode cX8_worth 123 = .ok (.i2l, 1) := by decide +kernel
theorem dX8_worth_124 : decode cX8_worth 124 = .ok (.lreturn, 1) := by decide +kernel
theorem dX8_readAll_0 : decode cX8_readAll 0 = .ok (.iconst 0, 1) := by decide +kernel
theorem dX8_readAll_1 : decode cX8_readAll 1 = .ok (.istore_n 1, 1) := by decide +kernel
theorem dX8_readAll_2 : decode cX8_readAll 2 = .ok (.iload_n 1, 1) := by decide +kernel
theorem dX8_readAll_3 : decode cX8_readAll 3 = .ok (.aload_n 0, 1) := by decide +kernel
theorem dX8_readAll_4 : decode cX8_readAll 4 = .ok (.getfield 82, 3) := by decide +kernel
theorem dX8_readAll_7 : decode cX8_readAll 7 = .ok (.if_icmp .ge 59, 3) := by decide +kernel
theorem dX8_readAll_10 : decode cX8_readAll 10 = .ok (.aload_n 0, 1) := by decide +kernel
theorem dX8_readAll_11 : decode cX8_readAll 11 = .ok (.getfield 7, 3) := by decide +kernel
theorem dX8_readAll_14 : decode cX8_readAll 14 = .ok (.iload_n 1, 1) := by decide +kernel
theorem dX8_readAll_15 : decode cX8_readAll 15 = .ok (.iaload, 1) := by decide +kernel
theorem dX8_readAll_16 : decode cX8_readAll 16 = .ok (.aload_n 0, 1) := by decide +kernel
theorem dX8_readAll_17 : decode cX8_readAll 17 = .ok (.getfield 32, 3) := by decide +kernel
theorem dX8_readAll_20 : decode cX8_readAll 20 = .ok (.aload_n 0, 1) := by decide +kernel
theorem dX8_readAll_21 : decode cX8_readAll 21 = .ok (.getfield 97, 3) := by decide +kernel
theorem dX8_readAll_24 : decode cX8_readAll 24 = .ok (.iaload, 1) := by decide +kernel
theorem dX8_readAll_25 : decode cX8_readAll 25 = .ok (.if_icmp .ne 35, 3) := by decide +kernel
theorem dX8_readAll_28 : decode cX8_readAll 28 = .ok (.aload_n 0, 1) := by decide +kernel
theorem dX8_readAll_29 : decode cX8_readAll 29 = .ok (.getfield 22, 3) := by decide +kernel
theorem dX8_readAll_32 : decode cX8_readAll 32 = .ok (.iload_n 1, 1) := by decide +kernel
theorem dX8_readAll_33 : decode cX8_readAll 33 = .ok (.baload, 1) := by decide +kernel
theorem dX8_readAll_34 : decode cX8_readAll 34 = .ok (.ifCond .ne 26, 3) := by decide +kernel
theorem dX8_readAll_37 : decode cX8_readAll 37 = .ok (.aload_n 0, 1) := by decide +kernel
theorem dX8_readAll_38 : decode cX8_readAll 38 = .ok (.aload_n 0, 1) := by decide +kernel
theorem dX8_readAll_39 : decode cX8_readAll 39 = .ok (.getfield 13, 3) := by decide +kernel
theorem dX8_readAll_42 : decode cX8_readAll 42 = .ok (.iload_n 1, 1) := by decide +kernel
theorem dX8_readAll_43 : decode cX8_readAll 43 = .ok (.iaload, 1) := by decide +kernel
theorem dX8_readAll_44 : decode cX8_readAll 44 = .ok (.aload_n 0, 1) := by decide +kernel
theorem dX8_readAll_45 : decode cX8_readAll 45 = .ok (.getfield 16, 3) := by decide +kernel
theorem dX8_readAll_48 : decode cX8_readAll 48 = .ok (.iload_n 1, 1) := by decide +kernel
theorem dX8_readAll_49 : decode cX8_readAll 49 = .ok (.iaload, 1) := by decide +kernel
theorem dX8_readAll_50 : decode cX8_readAll 50 = .ok (.aload_n 0, 1) := by decide +kernel
theorem dX8_readAll_51 : decode cX8_readAll 51 = .ok (.getfield 19, 3) := by decide +kernel
theorem dX8_readAll_54 : decode cX8_readAll 54 = .ok (.iload_n 1, 1) := by decide +kernel
theorem dX8_readAll_55 : decode cX8_readAll 55 = .ok (.iaload, 1) := by decide +kernel
theorem dX8_readAll_56 : decode cX8_readAll 56 = .ok (.i2l, 1) := by decide +kernel
theorem dX8_readAll_57 : decode cX8_readAll 57 = .ok (.invokevirtual 105, 3) := by decide +kernel
theorem dX8_readAll_60 : decode cX8_readAll 60 = .ok (.iinc 1 1, 3) := by decide +kernel
theorem dX8_readAll_63 : decode cX8_readAll 63 = .ok (.goto (-61), 3) := by decide +kernel
theorem dX8_readAll_66 : decode cX8_readAll 66 = .ok (.aload_n 0, 1) := by decide +kernel
theorem dX8_readAll_67 : decode cX8_readAll 67 = .ok (.iconst 0, 1) := by decide +kernel
theorem dX8_readAll_68 : decode cX8_readAll 68 = .ok (.invokevirtual 109, 3) := by decide +kernel
theorem dX8_readAll_71 : decode cX8_readAll 71 = .ok (.return_, 1) := by decide +kernel
theorem dX8_eachAll_0 : decode cX8_eachAll 0 = .ok (.sipush 201, 3) := by decide +kernel
theorem dX8_eachAll_3 : decode cX8_eachAll 3 = .ok (.aload_n 0, 1) := by decide +kernel
theorem dX8_eachAll_4 : decode cX8_eachAll 4 = .ok (.getfield 32, 3) := by decide +kernel
theorem dX8_eachAll_7 : decode cX8_eachAll 7 = .ok (.aload_n 0, 1) := by decide +kernel
theorem dX8_eachAll_8 : decode cX8_eachAll 8 = .ok (.getfield 97, 3) := by decide +kernel
theorem dX8_eachAll_11 : decode cX8_eachAll 11 = .ok (.iaload, 1) := by decide +kernel
theorem dX8_eachAll_12 : decode cX8_eachAll 12 = .ok (.imul, 1) := by decide +kernel
theorem dX8_eachAll_13 : decode cX8_eachAll 13 = .ok (.istore_n 1, 1) := by decide +kernel
theorem dX8_eachAll_14 : decode cX8_eachAll 14 = .ok (.iload_n 1, 1) := by decide +kernel
theorem dX8_eachAll_15 : decode cX8_eachAll 15 = .ok (.istore_n 2, 1) := by decide +kernel
theorem dX8_eachAll_16 : decode cX8_eachAll 16 = .ok (.iload_n 2, 1) := by decide +kernel
theorem dX8_eachAll_17 : decode cX8_eachAll 17 = .ok (.iload_n 1, 1) := by decide +kernel
theorem dX8_eachAll_18 : decode cX8_eachAll 18 = .ok (.aload_n 0, 1) := by decide +kernel
theorem dX8_eachAll_19 : decode cX8_eachAll 19 = .ok (.getfield 44, 3) := by decide +kernel
theorem dX8_eachAll_22 : decode cX8_eachAll 22 = .ok (.aload_n 0, 1) := by decide +kernel
theorem dX8_eachAll_23 : decode cX8_eachAll 23 = .ok (.getfield 32, 3) := by decide +kernel
theorem dX8_eachAll_26 : decode cX8_eachAll 26 = .ok (.aload_n 0, 1) := by decide +kernel
theorem dX8_eachAll_27 : decode cX8_eachAll 27 = .ok (.getfield 97, 3) := by decide +kernel
theorem dX8_eachAll_30 : decode cX8_eachAll 30 = .ok (.iaload, 1) := by decide +kernel
theorem dX8_eachAll_31 : decode cX8_eachAll 31 = .ok (.iaload, 1) := by decide +kernel
theorem dX8_eachAll_32 : decode cX8_eachAll 32 = .ok (.iadd, 1) := by decide +kernel
theorem dX8_eachAll_33 : decode cX8_eachAll 33 = .ok (.if_icmp .ge 200, 3) := by decide +kernel
theorem dX8_eachAll_36 : decode cX8_eachAll 36 = .ok (.aload_n 0, 1) := by decide +kernel
theorem dX8_eachAll_37 : decode cX8_eachAll 37 = .ok (.aload_n 0, 1) := by decide +kernel
theorem dX8_eachAll_38 : decode cX8_eachAll 38 = .ok (.getfield 35, 3) := by decide +kernel
theorem dX8_eachAll_41 : decode cX8_eachAll 41 = .ok (.aload_n 0, 1) := by decide +kernel
theorem dX8_eachAll_42 : decode cX8_eachAll 42 = .ok (.getfield 97, 3) := by decide +kernel
theorem dX8_eachAll_45 : decode cX8_eachAll 45 = .ok (.iaload, 1) := by decide +kernel
theorem dX8_eachAll_46 : decode cX8_eachAll 46 = .ok (.aload_n 0, 1) := by decide +kernel
theorem dX8_eachAll_47 : decode cX8_eachAll 47 = .ok (.getfield 56, 3) := by decide +kernel
theorem dX8_eachAll_50 : decode cX8_eachAll 50 = .ok (.iload_n 2, 1) := by decide +kernel
theorem dX8_eachAll_51 : decode cX8_eachAll 51 = .ok (.laload, 1) := by decide +kernel
theorem dX8_eachAll_52 : decode cX8_eachAll 52 = .ok (.aload_n 0, 1) := by decide +kernel
theorem dX8_eachAll_53 : decode cX8_eachAll 53 = .ok (.getfield 38, 3) := by decide +kernel
theorem dX8_eachAll_56 : decode cX8_eachAll 56 = .ok (.aload_n 0, 1) := by decide +kernel
theorem dX8_eachAll_57 : decode cX8_eachAll 57 = .ok (.getfield 97, 3) := by decide +kernel
theorem dX8_eachAll_60 : decode cX8_eachAll 60 = .ok (.iaload, 1) := by decide +kernel
theorem dX8_eachAll_61 : decode cX8_eachAll 61 = .ok (.i2l, 1) := by decide +kernel
theorem dX8_eachAll_62 : decode cX8_eachAll 62 = .ok (.invokevirtual 113, 3) := by decide +kernel
theorem dX8_eachAll_65 : decode cX8_eachAll 65 = .ok (.lstore_n 3, 1) := by decide +kernel
theorem dX8_eachAll_66 : decode cX8_eachAll 66 = .ok (.aload_n 0, 1) := by decide +kernel
theorem dX8_eachAll_67 : decode cX8_eachAll 67 = .ok (.getfield 100, 3) := by decide +kernel
theorem dX8_eachAll_70 : decode cX8_eachAll 70 = .ok (.bipush (-4), 2) := by decide +kernel
theorem dX8_eachAll_72 : decode cX8_eachAll 72 = .ok (.if_icmp .eq 36, 3) := by decide +kernel
theorem dX8_eachAll_75 : decode cX8_eachAll 75 = .ok (.aload_n 0, 1) := by decide +kernel
theorem dX8_eachAll_76 : decode cX8_eachAll 76 = .ok (.getfield 47, 3) := by decide +kernel
theorem dX8_eachAll_79 : decode cX8_eachAll 79 = .ok (.iconst 2, 1) := by decide +kernel
theorem dX8_eachAll_80 : decode cX8_eachAll 80 = .ok (.aload_n 0, 1) := by decide +kernel
theorem dX8_eachAll_81 : decode cX8_eachAll 81 = .ok (.getfield 97, 3) := by decide +kernel
theorem dX8_eachAll_84 : decode cX8_eachAll 84 = .ok (.imul, 1) := by decide +kernel
theorem dX8_eachAll_85 : decode cX8_eachAll 85 = .ok (.aload_n 0, 1) := by decide +kernel
theorem dX8_eachAll_86 : decode cX8_eachAll 86 = .ok (.getfield 100, 3) := by decide +kernel
theorem dX8_eachAll_89 : decode cX8_eachAll 89 = .ok (.iadd, 1) := by decide +kernel
theorem dX8_eachAll_90 : decode cX8_eachAll 90 = .ok (.dup2, 1) := by decide +kernel
theorem dX8_eachAll_91 : decode cX8_eachAll 91 = .ok (.iaload, 1) := by decide +kernel
theorem dX8_eachAll_92 : decode cX8_eachAll 92 = .ok (.iconst 1, 1) := by decide +kernel
theorem dX8_eachAll_93 : decode cX8_eachAll 93 = .ok (.iadd, 1) := by decide +kernel
theorem dX8_eachAll_94 : decode cX8_eachAll 94 = .ok (.iastore, 1) := by decide +kernel
theorem dX8_eachAll_95 : decode cX8_eachAll 95 = .ok (.aload_n 0, 1) := by decide +kernel
theorem dX8_eachAll_96 : decode cX8_eachAll 96 = .ok (.dup, 1) := by decide +kernel
theorem dX8_eachAll_97 : decode cX8_eachAll 97 = .ok (.getfield 117, 3) := by decide +kernel
theorem dX8_eachAll_100 : decode cX8_eachAll 100 = .ok (.iconst 1, 1) := by decide +kernel
theorem dX8_eachAll_101 : decode cX8_eachAll 101 = .ok (.iadd, 1) := by decide +kernel
theorem dX8_eachAll_102 : decode cX8_eachAll 102 = .ok (.putfield 117, 3) := by decide +kernel
theorem dX8_eachAll_105 : decode cX8_eachAll 105 = .ok (.goto 122, 3) := by decide +kernel
theorem dX8_eachAll_108 : decode cX8_eachAll 108 = .ok (.aload_n 0, 1) := by decide +kernel
theorem dX8_eachAll_109 : decode cX8_eachAll 109 = .ok (.getfield 29, 3) := by decide +kernel
theorem dX8_eachAll_112 : decode cX8_eachAll 112 = .ok (.aload_n 0, 1) := by decide +kernel
theorem dX8_eachAll_113 : decode cX8_eachAll 113 = .ok (.getfield 97, 3) := by decide +kernel
theorem dX8_eachAll_116 : decode cX8_eachAll 116 = .ok (.iaload, 1) := by decide +kernel
theorem dX8_eachAll_117 : decode cX8_eachAll 117 = .ok (.iconst 1, 1) := by decide +kernel
theorem dX8_eachAll_118 : decode cX8_eachAll 118 = .ok (.if_icmp .ne 23, 3) := by decide +kernel
theorem dX8_eachAll_121 : decode cX8_eachAll 121 = .ok (.aload_n 0, 1) := by decide +kernel
theorem dX8_eachAll_122 : decode cX8_eachAll 122 = .ok (.aload_n 0, 1) := by decide +kernel
theorem dX8_eachAll_123 : decode cX8_eachAll 123 = .ok (.getfield 50, 3) := by decide +kernel
theorem dX8_eachAll_126 : decode cX8_eachAll 126 = .ok (.iload_n 2, 1) := by decide +kernel
theorem dX8_eachAll_127 : decode cX8_eachAll 127 = .ok (.iaload, 1) := by decide +kernel
theorem dX8_eachAll_128 : decode cX8_eachAll 128 = .ok (.aload_n 0, 1) := by decide +kernel
theorem dX8_eachAll_129 : decode cX8_eachAll 129 = .ok (.getfield 53, 3) := by decide +kernel
theorem dX8_eachAll_132 : decode cX8_eachAll 132 = .ok (.iload_n 2, 1) := by decide +kernel
theorem dX8_eachAll_133 : decode cX8_eachAll 133 = .ok (.iaload, 1) := by decide +kernel
theorem dX8_eachAll_134 : decode cX8_eachAll 134 = .ok (.lload_n 3, 1) := by decide +kernel
theorem dX8_eachAll_135 : decode cX8_eachAll 135 = .ok (.invokevirtual 105, 3) := by decide +kernel
theorem dX8_eachAll_138 : decode cX8_eachAll 138 = .ok (.goto 89, 3) := by decide +kernel
theorem dX8_eachAll_141 : decode cX8_eachAll 141 = .ok (.aload_n 0, 1) := by decide +kernel
theorem dX8_eachAll_142 : decode cX8_eachAll 142 = .ok (.getfield 29, 3) := by decide +kernel
theorem dX8_eachAll_145 : decode cX8_eachAll 145 = .ok (.aload_n 0, 1) := by decide +kernel
theorem dX8_eachAll_146 : decode cX8_eachAll 146 = .ok (.getfield 97, 3) := by decide +kernel
theorem dX8_eachAll_149 : decode cX8_eachAll 149 = .ok (.iaload, 1) := by decide +kernel
theorem dX8_eachAll_150 : decode cX8_eachAll 150 = .ok (.iconst 3, 1) := by decide +kernel
theorem dX8_eachAll_151 : decode cX8_eachAll 151 = .ok (.if_icmp .ne 48, 3) := by decide +kernel
theorem dX8_eachAll_154 : decode cX8_eachAll 154 = .ok (.lload_n 3, 1) := by decide +kernel
theorem dX8_eachAll_155 : decode cX8_eachAll 155 = .ok (.ldc2_w 120, 3) := by decide +kernel
theorem dX8_eachAll_158 : decode cX8_eachAll 158 = .ok (.lrem, 1) := by decide +kernel
theorem dX8_eachAll_159 : decode cX8_eachAll 159 = .ok (.lstore 5, 2) := by decide +kernel
theorem dX8_eachAll_161 : decode cX8_eachAll 161 = .ok (.aload_n 0, 1) := by decide +kernel
theorem dX8_eachAll_162 : decode cX8_eachAll 162 = .ok (.aload_n 0, 1) := by decide +kernel
theorem dX8_eachAll_163 : decode cX8_eachAll 163 = .ok (.getfield 50, 3) := by decide +kernel
theorem dX8_eachAll_166 : decode cX8_eachAll 166 = .ok (.iload_n 2, 1) := by decide +kernel
theorem dX8_eachAll_167 : decode cX8_eachAll 167 = .ok (.iaload, 1) := by decide +kernel
theorem dX8_eachAll_168 : decode cX8_eachAll 168 = .ok (.lload 5, 2) := by decide +kernel
theorem dX8_eachAll_170 : decode cX8_eachAll 170 = .ok (.lconst 0, 1) := by decide +kernel
theorem dX8_eachAll_171 : decode cX8_eachAll 171 = .ok (.lcmp, 1) := by decide +kernel
theorem dX8_eachAll_172 : decode cX8_eachAll 172 = .ok (.ifCond .ge 12, 3) := by decide +kernel
theorem dX8_eachAll_175 : decode cX8_eachAll 175 = .ok (.lload 5, 2) := by decide +kernel
theorem dX8_eachAll_177 : decode cX8_eachAll 177 = .ok (.ldc2_w 120, 3) := by decide +kernel
theorem dX8_eachAll_180 : decode cX8_eachAll 180 = .ok (.ladd, 1) := by decide +kernel
theorem dX8_eachAll_181 : decode cX8_eachAll 181 = .ok (.goto 5, 3) := by decide +kernel
theorem dX8_eachAll_184 : decode cX8_eachAll 184 = .ok (.lload 5, 2) := by decide +kernel
theorem dX8_eachAll_186 : decode cX8_eachAll 186 = .ok (.l2i, 1) := by decide +kernel
theorem dX8_eachAll_187 : decode cX8_eachAll 187 = .ok (.aload_n 0, 1) := by decide +kernel
theorem dX8_eachAll_188 : decode cX8_eachAll 188 = .ok (.getfield 56, 3) := by decide +kernel
theorem dX8_eachAll_191 : decode cX8_eachAll 191 = .ok (.iload_n 2, 1) := by decide +kernel
theorem dX8_eachAll_192 : decode cX8_eachAll 192 = .ok (.laload, 1) := by decide +kernel
theorem dX8_eachAll_193 : decode cX8_eachAll 193 = .ok (.invokevirtual 105, 3) := by decide +kernel
theorem dX8_eachAll_196 : decode cX8_eachAll 196 = .ok (.goto 31, 3) := by decide +kernel
theorem dX8_eachAll_199 : decode cX8_eachAll 199 = .ok (.lload_n 3, 1) := by decide +kernel
theorem dX8_eachAll_200 : decode cX8_eachAll 200 = .ok (.lconst 0, 1) := by decide +kernel
theorem dX8_eachAll_201 : decode cX8_eachAll 201 = .ok (.lcmp, 1) := by decide +kernel
theorem dX8_eachAll_202 : decode cX8_eachAll 202 = .ok (.ifCond .le 25, 3) := by decide +kernel
theorem dX8_eachAll_205 : decode cX8_eachAll 205 = .ok (.aload_n 0, 1) := by decide +kernel
theorem dX8_eachAll_206 : decode cX8_eachAll 206 = .ok (.aload_n 0, 1) := by decide +kernel
theorem dX8_eachAll_207 : decode cX8_eachAll 207 = .ok (.getfield 50, 3) := by decide +kernel
theorem dX8_eachAll_210 : decode cX8_eachAll 210 = .ok (.iload_n 2, 1) := by decide +kernel
theorem dX8_eachAll_211 : decode cX8_eachAll 211 = .ok (.iaload, 1) := by decide +kernel
theorem dX8_eachAll_212 : decode cX8_eachAll 212 = .ok (.aload_n 0, 1) := by decide +kernel
theorem dX8_eachAll_213 : decode cX8_eachAll 213 = .ok (.getfield 53, 3) := by decide +kernel
theorem dX8_eachAll_216 : decode cX8_eachAll 216 = .ok (.iload_n 2, 1) := by decide +kernel
theorem dX8_eachAll_217 : decode cX8_eachAll 217 = .ok (.iaload, 1) := by decide +kernel
theorem dX8_eachAll_218 : decode cX8_eachAll 218 = .ok (.aload_n 0, 1) := by decide +kernel
theorem dX8_eachAll_219 : decode cX8_eachAll 219 = .ok (.getfield 56, 3) := by decide +kernel
theorem dX8_eachAll_222 : decode cX8_eachAll 222 = .ok (.iload_n 2, 1) := by decide +kernel
theorem dX8_eachAll_223 : decode cX8_eachAll 223 = .ok (.laload, 1) := by decide +kernel
theorem dX8_eachAll_224 : decode cX8_eachAll 224 = .ok (.invokevirtual 105, 3) := by decide +kernel
theorem dX8_eachAll_227 : decode cX8_eachAll 227 = .ok (.iinc 2 1, 3) := by decide +kernel
theorem dX8_eachAll_230 : decode cX8_eachAll 230 = .ok (.goto (-214), 3) := by decide +kernel
theorem dX8_eachAll_233 : decode cX8_eachAll 233 = .ok (.return_, 1) := by decide +kernel
theorem dX8_spanAll_0 : decode cX8_spanAll 0 = .ok (.sipush 201, 3) := by decide +kernel
theorem dX8_spanAll_3 : decode cX8_spanAll 3 = .ok (.aload_n 0, 1) := by decide +kernel
theorem dX8_spanAll_4 : decode cX8_spanAll 4 = .ok (.getfield 32, 3) := by decide +kernel
theorem dX8_spanAll_7 : decode cX8_spanAll 7 = .ok (.aload_n 0, 1) := by decide +kernel
theorem dX8_spanAll_8 : decode cX8_spanAll 8 = .ok (.getfield 97, 3) := by decide +kernel
theorem dX8_spanAll_11 : decode cX8_spanAll 11 = .ok (.iaload, 1) := by decide +kernel
theorem dX8_spanAll_12 : decode cX8_spanAll 12 = .ok (.imul, 1) := by decide +kernel
theorem dX8_spanAll_13 : decode cX8_spanAll 13 = .ok (.istore_n 1, 1) := by decide +kernel
theorem dX8_spanAll_14 : decode cX8_spanAll 14 = .ok (.aload_n 0, 1) := by decide +kernel
theorem dX8_spanAll_15 : decode cX8_spanAll 15 = .ok (.getfield 38, 3) := by decide +kernel
theorem dX8_spanAll_18 : decode cX8_spanAll 18 = .ok (.aload_n 0, 1) := by decide +kernel
theorem dX8_spanAll_19 : decode cX8_spanAll 19 = .ok (.getfield 97, 3) := by decide +kernel
theorem dX8_spanAll_22 : decode cX8_spanAll 22 = .ok (.iaload, 1) := by decide +kernel
theorem dX8_spanAll_23 : decode cX8_spanAll 23 = .ok (.istore_n 2, 1) := by decide +kernel
theorem dX8_spanAll_24 : decode cX8_spanAll 24 = .ok (.iload_n 1, 1) := by decide +kernel
theorem dX8_spanAll_25 : decode cX8_spanAll 25 = .ok (.istore_n 3, 1) := by decide +kernel
theorem dX8_spanAll_26 : decode cX8_spanAll 26 = .ok (.iload_n 3, 1) := by decide +kernel
theorem dX8_spanAll_27 : decode cX8_spanAll 27 = .ok (.iload_n 1, 1) := by decide +kernel
theorem dX8_spanAll_28 : decode cX8_spanAll 28 = .ok (.aload_n 0, 1) := by decide +kernel
theorem dX8_spanAll_29 : decode cX8_spanAll 29 = .ok (.getfield 44, 3) := by decide +kernel
theorem dX8_spanAll_32 : decode cX8_spanAll 32 = .ok (.aload_n 0, 1) := by decide +kernel
theorem dX8_spanAll_33 : decode cX8_spanAll 33 = .ok (.getfield 32, 3) := by decide +kernel
theorem dX8_spanAll_36 : decode cX8_spanAll 36 = .ok (.aload_n 0, 1) := by decide +kernel
theorem dX8_spanAll_37 : decode cX8_spanAll 37 = .ok (.getfield 97, 3) := by decide +kernel
theorem dX8_spanAll_40 : decode cX8_spanAll 40 = .ok (.iaload, 1) := by decide +kernel
theorem dX8_spanAll_41 : decode cX8_spanAll 41 = .ok (.iaload, 1) := by decide +kernel
theorem dX8_spanAll_42 : decode cX8_spanAll 42 = .ok (.iadd, 1) := by decide +kernel
theorem dX8_spanAll_43 : decode cX8_spanAll 43 = .ok (.if_icmp .ge 331, 3) := by decide +kernel
theorem dX8_spanAll_46 : decode cX8_spanAll 46 = .ok (.aload_n 0, 1) := by decide +kernel
theorem dX8_spanAll_47 : decode cX8_spanAll 47 = .ok (.getfield 50, 3) := by decide +kernel
theorem dX8_spanAll_50 : decode cX8_spanAll 50 = .ok (.iload_n 3, 1) := by decide +kernel
theorem dX8_spanAll_51 : decode cX8_spanAll 51 = .ok (.iaload, 1) := by decide +kernel
theorem dX8_spanAll_52 : decode cX8_spanAll 52 = .ok (.iload_n 2, 1) := by decide +kernel
theorem dX8_spanAll_53 : decode cX8_spanAll 53 = .ok (.idiv, 1) := by decide +kernel
theorem dX8_spanAll_54 : decode cX8_spanAll 54 = .ok (.iload_n 2, 1) := by decide +kernel
theorem dX8_spanAll_55 : decode cX8_spanAll 55 = .ok (.imul, 1) := by decide +kernel
theorem dX8_spanAll_56 : decode cX8_spanAll 56 = .ok (.iload_n 2, 1) := by decide +kernel
theorem dX8_spanAll_57 : decode cX8_spanAll 57 = .ok (.iadd, 1) := by decide +kernel
theorem dX8_spanAll_58 : decode cX8_spanAll 58 = .ok (.iconst 1, 1) := by decide +kernel
theorem dX8_spanAll_59 : decode cX8_spanAll 59 = .ok (.isub, 1) := by decide +kernel
theorem dX8_spanAll_60 : decode cX8_spanAll 60 = .ok (.istore 4, 2) := by decide +kernel
theorem dX8_spanAll_62 : decode cX8_spanAll 62 = .ok (.sipush 201, 3) := by decide +kernel
theorem dX8_spanAll_65 : decode cX8_spanAll 65 = .ok (.aload_n 0, 1) := by decide +kernel
theorem dX8_spanAll_66 : decode cX8_spanAll 66 = .ok (.getfield 97, 3) := by decide +kernel
theorem dX8_spanAll_69 : decode cX8_spanAll 69 = .ok (.imul, 1) := by decide +kernel
theorem dX8_spanAll_70 : decode cX8_spanAll 70 = .ok (.istore 5, 2) := by decide +kernel
theorem dX8_spanAll_72 : decode cX8_spanAll 72 = .ok (.iload 5, 2) := by decide +kernel
theorem dX8_spanAll_74 : decode cX8_spanAll 74 = .ok (.aload_n 0, 1) := by decide +kernel
theorem dX8_spanAll_75 : decode cX8_spanAll 75 = .ok (.getfield 44, 3) := by decide +kernel
theorem dX8_spanAll_78 : decode cX8_spanAll 78 = .ok (.aload_n 0, 1) := by decide +kernel
theorem dX8_spanAll_79 : decode cX8_spanAll 79 = .ok (.getfield 97, 3) := by decide +kernel
theorem dX8_spanAll_82 : decode cX8_spanAll 82 = .ok (.iaload, 1) := by decide +kernel
theorem dX8_spanAll_83 : decode cX8_spanAll 83 = .ok (.iadd, 1) := by decide +kernel
theorem dX8_spanAll_84 : decode cX8_spanAll 84 = .ok (.istore 6, 2) := by decide +kernel
theorem dX8_spanAll_86 : decode cX8_spanAll 86 = .ok (.iload 5, 2) := by decide +kernel
theorem dX8_spanAll_88 : decode cX8_spanAll 88 = .ok (.iload 6, 2) := by decide +kernel
theorem dX8_spanAll_90 : decode cX8_spanAll 90 = .ok (.if_icmp .ge 37, 3) := by decide +kernel
theorem dX8_spanAll_93 : decode cX8_spanAll 93 = .ok (.aload_n 0, 1) := by decide +kernel
theorem dX8_spanAll_94 : decode cX8_spanAll 94 = .ok (.getfield 50, 3) := by decide +kernel
theorem dX8_spanAll_97 : decode cX8_spanAll 97 = .ok (.iload 5, 2) := by decide +kernel
theorem dX8_spanAll_99 : decode cX8_spanAll 99 = .ok (.iaload, 1) := by decide +kernel
theorem dX8_spanAll_100 : decode cX8_spanAll 100 = .ok (.iload 4, 2) := by decide +kernel
theorem dX8_spanAll_102 : decode cX8_spanAll 102 = .ok (.if_icmp .ne 19, 3) := by decide +kernel
theorem dX8_spanAll_105 : decode cX8_spanAll 105 = .ok (.aload_n 0, 1) := by decide +kernel
theorem dX8_spanAll_106 : decode cX8_spanAll 106 = .ok (.getfield 53, 3) := by decide +kernel
theorem dX8_spanAll_109 : decode cX8_spanAll 109 = .ok (.iload 5, 2) := by decide +kernel
theorem dX8_spanAll_111 : decode cX8_spanAll 111 = .ok (.iaload, 1) := by decide +kernel
theorem dX8_spanAll_112 : decode cX8_spanAll 112 = .ok (.aload_n 0, 1) := by decide +kernel
theorem dX8_spanAll_113 : decode cX8_spanAll 113 = .ok (.getfield 53, 3) := by decide +kernel
theorem dX8_spanAll_116 : decode cX8_spanAll 116 = .ok (.iload_n 3, 1) := by decide +kernel
theorem dX8_spanAll_117 : decode cX8_spanAll 117 = .ok (.iaload, 1) := by decide +kernel
theorem dX8_spanAll_118 : decode cX8_spanAll 118 = .ok (.if_icmp .eq 9, 3) := by decide +kernel
theorem dX8_spanAll_121 : decode cX8_spanAll 121 = .ok (.iinc 5 1, 3) := by decide +kernel
theorem dX8_spanAll_124 : decode cX8_spanAll 124 = .ok (.goto (-38), 3) := by decide +kernel
theorem dX8_spanAll_127 : decode cX8_spanAll 127 = .ok (.iload 5, 2) := by decide +kernel
theorem dX8_spanAll_129 : decode cX8_spanAll 129 = .ok (.iload 6, 2) := by decide +kernel
theorem dX8_spanAll_131 : decode cX8_spanAll 131 = .ok (.if_icmp .ne 7, 3) := by decide +kernel
theorem dX8_spanAll_134 : decode cX8_spanAll 134 = .ok (.iconst 1, 1) := by decide +kernel
theorem dX8_spanAll_135 : decode cX8_spanAll 135 = .ok (.goto 4, 3) := by decide +kernel
theorem dX8_spanAll_138 : decode cX8_spanAll 138 = .ok (.iconst 0, 1) := by decide +kernel
theorem dX8_spanAll_139 : decode cX8_spanAll 139 = .ok (.istore 7, 2) := by decide +kernel
theorem dX8_spanAll_141 : decode cX8_spanAll 141 = .ok (.iload 7, 2) := by decide +kernel
theorem dX8_spanAll_143 : decode cX8_spanAll 143 = .ok (.ifCond .eq 54, 3) := by decide +kernel
theorem dX8_spanAll_146 : decode cX8_spanAll 146 = .ok (.aload_n 0, 1) := by decide +kernel
theorem dX8_spanAll_147 : decode cX8_spanAll 147 = .ok (.iload 4, 2) := by decide +kernel
theorem dX8_spanAll_149 : decode cX8_spanAll 149 = .ok (.aload_n 0, 1) := by decide +kernel
theorem dX8_spanAll_150 : decode cX8_spanAll 150 = .ok (.getfield 53, 3) := by decide +kernel
theorem dX8_spanAll_153 : decode cX8_spanAll 153 = .ok (.iload_n 3, 1) := by decide +kernel
theorem dX8_spanAll_154 : decode cX8_spanAll 154 = .ok (.iaload, 1) := by decide +kernel
theorem dX8_spanAll_155 : decode cX8_spanAll 155 = .ok (.aload_n 0, 1) := by decide +kernel
theorem dX8_spanAll_156 : decode cX8_spanAll 156 = .ok (.getfield 35, 3) := by decide +kernel
theorem dX8_spanAll_159 : decode cX8_spanAll 159 = .ok (.aload_n 0, 1) := by decide +kernel
theorem dX8_spanAll_160 : decode cX8_spanAll 160 = .ok (.getfield 97, 3) := by decide +kernel
theorem dX8_spanAll_163 : decode cX8_spanAll 163 = .ok (.iaload, 1) := by decide +kernel
theorem dX8_spanAll_164 : decode cX8_spanAll 164 = .ok (.iconst 1, 1) := by decide +kernel
theorem dX8_spanAll_165 : decode cX8_spanAll 165 = .ok (.if_icmp .ne 7, 3) := by decide +kernel
theorem dX8_spanAll_168 : decode cX8_spanAll 168 = .ok (.lconst 0, 1) := by decide +kernel
theorem dX8_spanAll_169 : decode cX8_spanAll 169 = .ok (.goto 25, 3) := by decide +kernel
theorem dX8_spanAll_172 : decode cX8_spanAll 172 = .ok (.aload_n 0, 1) := by decide +kernel
theorem dX8_spanAll_173 : decode cX8_spanAll 173 = .ok (.getfield 35, 3) := by decide +kernel
theorem dX8_spanAll_176 : decode cX8_spanAll 176 = .ok (.aload_n 0, 1) := by decide +kernel
theorem dX8_spanAll_177 : decode cX8_spanAll 177 = .ok (.getfield 97, 3) := by decide +kernel
theorem dX8_spanAll_180 : decode cX8_spanAll 180 = .ok (.iaload, 1) := by decide +kernel
theorem dX8_spanAll_181 : decode cX8_spanAll 181 = .ok (.ifCond .ne 7, 3) := by decide +kernel
theorem dX8_spanAll_184 : decode cX8_spanAll 184 = .ok (.lconst 0, 1) := by decide +kernel
theorem dX8_spanAll_185 : decode cX8_spanAll 185 = .ok (.goto 9, 3) := by decide +kernel
theorem dX8_spanAll_188 : decode cX8_spanAll 188 = .ok (.aload_n 0, 1) := by decide +kernel
theorem dX8_spanAll_189 : decode cX8_spanAll 189 = .ok (.getfield 56, 3) := by decide +kernel
theorem dX8_spanAll_192 : decode cX8_spanAll 192 = .ok (.iload_n 3, 1) := by decide +kernel
theorem dX8_spanAll_193 : decode cX8_spanAll 193 = .ok (.laload, 1) := by decide +kernel
theorem dX8_spanAll_194 : decode cX8_spanAll 194 = .ok (.invokevirtual 105, 3) := by decide +kernel
theorem dX8_spanAll_197 : decode cX8_spanAll 197 = .ok (.aload_n 0, 1) := by decide +kernel
theorem dX8_spanAll_198 : decode cX8_spanAll 198 = .ok (.getfield 35, 3) := by decide +kernel
theorem dX8_spanAll_201 : decode cX8_spanAll 201 = .ok (.aload_n 0, 1) := by decide +kernel
theorem dX8_spanAll_202 : decode cX8_spanAll 202 = .ok (.getfield 97, 3) := by decide +kernel
theorem dX8_spanAll_205 : decode cX8_spanAll 205 = .ok (.iaload, 1) := by decide +kernel
theorem dX8_spanAll_206 : decode cX8_spanAll 206 = .ok (.tableswitch 149 0 3 #[30, 49, 63, 106], 30) := by decide +kernel
theorem dX8_spanAll_236 : decode cX8_spanAll 236 = .ok (.aload_n 0, 1) := by decide +kernel
theorem dX8_spanAll_237 : decode cX8_spanAll 237 = .ok (.getfield 56, 3) := by decide +kernel
theorem dX8_spanAll_240 : decode cX8_spanAll 240 = .ok (.iload 5, 2) := by decide +kernel
theorem dX8_spanAll_242 : decode cX8_spanAll 242 = .ok (.dup2, 1) := by decide +kernel
theorem dX8_spanAll_243 : decode cX8_spanAll 243 = .ok (.laload, 1) := by decide +kernel
theorem dX8_spanAll_244 : decode cX8_spanAll 244 = .ok (.aload_n 0, 1) := by decide +kernel
theorem dX8_spanAll_245 : decode cX8_spanAll 245 = .ok (.getfield 56, 3) := by decide +kernel
theorem dX8_spanAll_248 : decode cX8_spanAll 248 = .ok (.iload_n 3, 1) := by decide +kernel
theorem dX8_spanAll_249 : decode cX8_spanAll 249 = .ok (.laload, 1) := by decide +kernel
theorem dX8_spanAll_250 : decode cX8_spanAll 250 = .ok (.ladd, 1) := by decide +kernel
theorem dX8_spanAll_251 : decode cX8_spanAll 251 = .ok (.lastore, 1) := by decide +kernel
theorem dX8_spanAll_252 : decode cX8_spanAll 252 = .ok (.goto 116, 3) := by decide +kernel
theorem dX8_spanAll_255 : decode cX8_spanAll 255 = .ok (.aload_n 0, 1) := by decide +kernel
theorem dX8_spanAll_256 : decode cX8_spanAll 256 = .ok (.getfield 56, 3) := by decide +kernel
theorem dX8_spanAll_259 : decode cX8_spanAll 259 = .ok (.iload 5, 2) := by decide +kernel
theorem dX8_spanAll_261 : decode cX8_spanAll 261 = .ok (.dup2, 1) := by decide +kernel
theorem dX8_spanAll_262 : decode cX8_spanAll 262 = .ok (.laload, 1) := by decide +kernel
theorem dX8_spanAll_263 : decode cX8_spanAll 263 = .ok (.lconst 1, 1) := by decide +kernel
theorem dX8_spanAll_264 : decode cX8_spanAll 264 = .ok (.ladd, 1) := by decide +kernel
theorem dX8_spanAll_265 : decode cX8_spanAll 265 = .ok (.lastore, 1) := by decide +kernel
theorem dX8_spanAll_266 : decode cX8_spanAll 266 = .ok (.goto 102, 3) := by decide +kernel
theorem dX8_spanAll_269 : decode cX8_spanAll 269 = .ok (.aload_n 0, 1) := by decide +kernel
theorem dX8_spanAll_270 : decode cX8_spanAll 270 = .ok (.getfield 56, 3) := by decide +kernel
theorem dX8_spanAll_273 : decode cX8_spanAll 273 = .ok (.iload 5, 2) := by decide +kernel
theorem dX8_spanAll_275 : decode cX8_spanAll 275 = .ok (.aload_n 0, 1) := by decide +kernel
theorem dX8_spanAll_276 : decode cX8_spanAll 276 = .ok (.getfield 56, 3) := by decide +kernel
theorem dX8_spanAll_279 : decode cX8_spanAll 279 = .ok (.iload_n 3, 1) := by decide +kernel
theorem dX8_spanAll_280 : decode cX8_spanAll 280 = .ok (.laload, 1) := by decide +kernel
theorem dX8_spanAll_281 : decode cX8_spanAll 281 = .ok (.aload_n 0, 1) := by decide +kernel
theorem dX8_spanAll_282 : decode cX8_spanAll 282 = .ok (.getfield 56, 3) := by decide +kernel
theorem dX8_spanAll_285 : decode cX8_spanAll 285 = .ok (.iload 5, 2) := by decide +kernel
theorem dX8_spanAll_287 : decode cX8_spanAll 287 = .ok (.laload, 1) := by decide +kernel
theorem dX8_spanAll_288 : decode cX8_spanAll 288 = .ok (.lcmp, 1) := by decide +kernel
theorem dX8_spanAll_289 : decode cX8_spanAll 289 = .ok (.ifCond .ge 12, 3) := by decide +kernel
theorem dX8_spanAll_292 : decode cX8_spanAll 292 = .ok (.aload_n 0, 1) := by decide +kernel
theorem dX8_spanAll_293 : decode cX8_spanAll 293 = .ok (.getfield 56, 3) := by decide +kernel
theorem dX8_spanAll_296 : decode cX8_spanAll 296 = .ok (.iload_n 3, 1) := by decide +kernel
theorem dX8_spanAll_297 : decode cX8_spanAll 297 = .ok (.laload, 1) := by decide +kernel
theorem dX8_spanAll_298 : decode cX8_spanAll 298 = .ok (.goto 10, 3) := by decide +kernel
theorem dX8_spanAll_301 : decode cX8_spanAll 301 = .ok (.aload_n 0, 1) := by decide +kernel
theorem dX8_spanAll_302 : decode cX8_spanAll 302 = .ok (.getfield 56, 3) := by decide +kernel
theorem dX8_spanAll_305 : decode cX8_spanAll 305 = .ok (.iload 5, 2) := by decide +kernel
theorem dX8_spanAll_307 : decode cX8_spanAll 307 = .ok (.laload, 1) := by decide +kernel
theorem dX8_spanAll_308 : decode cX8_spanAll 308 = .ok (.lastore, 1) := by decide +kernel
theorem dX8_spanAll_309 : decode cX8_spanAll 309 = .ok (.goto 59, 3) := by decide +kernel
theorem dX8_spanAll_312 : decode cX8_spanAll 312 = .ok (.aload_n 0, 1) := by decide +kernel
theorem dX8_spanAll_313 : decode cX8_spanAll 313 = .ok (.getfield 56, 3) := by decide +kernel
theorem dX8_spanAll_316 : decode cX8_spanAll 316 = .ok (.iload 5, 2) := by decide +kernel
theorem dX8_spanAll_318 : decode cX8_spanAll 318 = .ok (.aload_n 0, 1) := by decide +kernel
theorem dX8_spanAll_319 : decode cX8_spanAll 319 = .ok (.getfield 56, 3) := by decide +kernel
theorem dX8_spanAll_322 : decode cX8_spanAll 322 = .ok (.iload_n 3, 1) := by decide +kernel
theorem dX8_spanAll_323 : decode cX8_spanAll 323 = .ok (.laload, 1) := by decide +kernel
theorem dX8_spanAll_324 : decode cX8_spanAll 324 = .ok (.aload_n 0, 1) := by decide +kernel
theorem dX8_spanAll_325 : decode cX8_spanAll 325 = .ok (.getfield 56, 3) := by decide +kernel
theorem dX8_spanAll_328 : decode cX8_spanAll 328 = .ok (.iload 5, 2) := by decide +kernel
theorem dX8_spanAll_330 : decode cX8_spanAll 330 = .ok (.laload, 1) := by decide +kernel
theorem dX8_spanAll_331 : decode cX8_spanAll 331 = .ok (.lcmp, 1) := by decide +kernel
theorem dX8_spanAll_332 : decode cX8_spanAll 332 = .ok (.ifCond .le 12, 3) := by decide +kernel
theorem dX8_spanAll_335 : decode cX8_spanAll 335 = .ok (.aload_n 0, 1) := by decide +kernel
theorem dX8_spanAll_336 : decode cX8_spanAll 336 = .ok (.getfield 56, 3) := by decide +kernel
theorem dX8_spanAll_339 : decode cX8_spanAll 339 = .ok (.iload_n 3, 1) := by decide +kernel
theorem dX8_spanAll_340 : decode cX8_spanAll 340 = .ok (.laload, 1) := by decide +kernel
theorem dX8_spanAll_341 : decode cX8_spanAll 341 = .ok (.goto 10, 3) := by decide +kernel
theorem dX8_spanAll_344 : decode cX8_spanAll 344 = .ok (.aload_n 0, 1) := by decide +kernel
theorem dX8_spanAll_345 : decode cX8_spanAll 345 = .ok (.getfield 56, 3) := by decide +kernel
theorem dX8_spanAll_348 : decode cX8_spanAll 348 = .ok (.iload 5, 2) := by decide +kernel
theorem dX8_spanAll_350 : decode cX8_spanAll 350 = .ok (.laload, 1) := by decide +kernel
theorem dX8_spanAll_351 : decode cX8_spanAll 351 = .ok (.lastore, 1) := by decide +kernel
theorem dX8_spanAll_352 : decode cX8_spanAll 352 = .ok (.goto 16, 3) := by decide +kernel
theorem dX8_spanAll_355 : decode cX8_spanAll 355 = .ok (.aload_n 0, 1) := by decide +kernel
theorem dX8_spanAll_356 : decode cX8_spanAll 356 = .ok (.getfield 56, 3) := by decide +kernel
theorem dX8_spanAll_359 : decode cX8_spanAll 359 = .ok (.iload 5, 2) := by decide +kernel
theorem dX8_spanAll_361 : decode cX8_spanAll 361 = .ok (.aload_n 0, 1) := by decide +kernel
theorem dX8_spanAll_362 : decode cX8_spanAll 362 = .ok (.getfield 56, 3) := by decide +kernel
theorem dX8_spanAll_365 : decode cX8_spanAll 365 = .ok (.iload_n 3, 1) := by decide +kernel
theorem dX8_spanAll_366 : decode cX8_spanAll 366 = .ok (.laload, 1) := by decide +kernel
theorem dX8_spanAll_367 : decode cX8_spanAll 367 = .ok (.lastore, 1) := by decide +kernel
theorem dX8_spanAll_368 : decode cX8_spanAll 368 = .ok (.iinc 3 1, 3) := by decide +kernel
theorem dX8_spanAll_371 : decode cX8_spanAll 371 = .ok (.goto (-345), 3) := by decide +kernel
theorem dX8_spanAll_374 : decode cX8_spanAll 374 = .ok (.aload_n 0, 1) := by decide +kernel
theorem dX8_spanAll_375 : decode cX8_spanAll 375 = .ok (.iconst 1, 1) := by decide +kernel
theorem dX8_spanAll_376 : decode cX8_spanAll 376 = .ok (.invokevirtual 109, 3) := by decide +kernel
theorem dX8_spanAll_379 : decode cX8_spanAll 379 = .ok (.return_, 1) := by decide +kernel
theorem dX8_joinAll_0 : decode cX8_joinAll 0 = .ok (.sipush 201, 3) := by decide +kernel
theorem dX8_joinAll_3 : decode cX8_joinAll 3 = .ok (.aload_n 0, 1) := by decide +kernel
theorem dX8_joinAll_4 : decode cX8_joinAll 4 = .ok (.getfield 32, 3) := by decide +kernel
theorem dX8_joinAll_7 : decode cX8_joinAll 7 = .ok (.aload_n 0, 1) := by decide +kernel
theorem dX8_joinAll_8 : decode cX8_joinAll 8 = .ok (.getfield 97, 3) := by decide +kernel
theorem dX8_joinAll_11 : decode cX8_joinAll 11 = .ok (.iaload, 1) := by decide +kernel
theorem dX8_joinAll_12 : decode cX8_joinAll 12 = .ok (.imul, 1) := by decide +kernel
theorem dX8_joinAll_13 : decode cX8_joinAll 13 = .ok (.istore_n 1, 1) := by decide +kernel
theorem dX8_joinAll_14 : decode cX8_joinAll 14 = .ok (.sipush 201, 3) := by decide +kernel
theorem dX8_joinAll_17 : decode cX8_joinAll 17 = .ok (.aload_n 0, 1) := by decide +kernel
theorem dX8_joinAll_18 : decode cX8_joinAll 18 = .ok (.getfield 35, 3) := by decide +kernel
theorem dX8_joinAll_21 : decode cX8_joinAll 21 = .ok (.aload_n 0, 1) := by decide +kernel
theorem dX8_joinAll_22 : decode cX8_joinAll 22 = .ok (.getfield 97, 3) := by decide +kernel
theorem dX8_joinAll_25 : decode cX8_joinAll 25 = .ok (.iaload, 1) := by decide +kernel
theorem dX8_joinAll_26 : decode cX8_joinAll 26 = .ok (.imul, 1) := by decide +kernel
theorem dX8_joinAll_27 : decode cX8_joinAll 27 = .ok (.istore_n 2, 1) := by decide +kernel
theorem dX8_joinAll_28 : decode cX8_joinAll 28 = .ok (.iload_n 1, 1) := by decide +kernel
theorem dX8_joinAll_29 : decode cX8_joinAll 29 = .ok (.istore_n 3, 1) := by decide +kernel
theorem dX8_joinAll_30 : decode cX8_joinAll 30 = .ok (.iload_n 3, 1) := by decide +kernel
theorem dX8_joinAll_31 : decode cX8_joinAll 31 = .ok (.iload_n 1, 1) := by decide +kernel
theorem dX8_joinAll_32 : decode cX8_joinAll 32 = .ok (.aload_n 0, 1) := by decide +kernel
theorem dX8_joinAll_33 : decode cX8_joinAll 33 = .ok (.getfield 44, 3) := by decide +kernel
theorem dX8_joinAll_36 : decode cX8_joinAll 36 = .ok (.aload_n 0, 1) := by decide +kernel
theorem dX8_joinAll_37 : decode cX8_joinAll 37 = .ok (.getfield 32, 3) := by decide +kernel
theorem dX8_joinAll_40 : decode cX8_joinAll 40 = .ok (.aload_n 0, 1) := by decide +kernel
theorem dX8_joinAll_41 : decode cX8_joinAll 41 = .ok (.getfield 97, 3) := by decide +kernel
theorem dX8_joinAll_44 : decode cX8_joinAll 44 = .ok (.iaload, 1) := by decide +kernel
theorem dX8_joinAll_45 : decode cX8_joinAll 45 = .ok (.iaload, 1) := by decide +kernel
theorem dX8_joinAll_46 : decode cX8_joinAll 46 = .ok (.iadd, 1) := by decide +kernel
theorem dX8_joinAll_47 : decode cX8_joinAll 47 = .ok (.if_icmp .ge 149, 3) := by decide +kernel
theorem dX8_joinAll_50 : decode cX8_joinAll 50 = .ok (.iload_n 2, 1) := by decide +kernel
theorem dX8_joinAll_51 : decode cX8_joinAll 51 = .ok (.istore 4, 2) := by decide +kernel
theorem dX8_joinAll_53 : decode cX8_joinAll 53 = .ok (.iload 4, 2) := by decide +kernel
theorem dX8_joinAll_55 : decode cX8_joinAll 55 = .ok (.iload_n 2, 1) := by decide +kernel
theorem dX8_joinAll_56 : decode cX8_joinAll 56 = .ok (.aload_n 0, 1) := by decide +kernel
theorem dX8_joinAll_57 : decode cX8_joinAll 57 = .ok (.getfield 44, 3) := by decide +kernel
theorem dX8_joinAll_60 : decode cX8_joinAll 60 = .ok (.aload_n 0, 1) := by decide +kernel
theorem dX8_joinAll_61 : decode cX8_joinAll 61 = .ok (.getfield 35, 3) := by decide +kernel
theorem dX8_joinAll_64 : decode cX8_joinAll 64 = .ok (.aload_n 0, 1) := by decide +kernel
theorem dX8_joinAll_65 : decode cX8_joinAll 65 = .ok (.getfield 97, 3) := by decide +kernel
theorem dX8_joinAll_68 : decode cX8_joinAll 68 = .ok (.iaload, 1) := by decide +kernel
theorem dX8_joinAll_69 : decode cX8_joinAll 69 = .ok (.iaload, 1) := by decide +kernel
theorem dX8_joinAll_70 : decode cX8_joinAll 70 = .ok (.iadd, 1) := by decide +kernel
theorem dX8_joinAll_71 : decode cX8_joinAll 71 = .ok (.if_icmp .ge 119, 3) := by decide +kernel
theorem dX8_joinAll_74 : decode cX8_joinAll 74 = .ok (.aload_n 0, 1) := by decide +kernel
theorem dX8_joinAll_75 : decode cX8_joinAll 75 = .ok (.getfield 50, 3) := by decide +kernel
theorem dX8_joinAll_78 : decode cX8_joinAll 78 = .ok (.iload_n 3, 1) := by decide +kernel
theorem dX8_joinAll_79 : decode cX8_joinAll 79 = .ok (.iaload, 1) := by decide +kernel
theorem dX8_joinAll_80 : decode cX8_joinAll 80 = .ok (.aload_n 0, 1) := by decide +kernel
theorem dX8_joinAll_81 : decode cX8_joinAll 81 = .ok (.getfield 50, 3) := by decide +kernel
theorem dX8_joinAll_84 : decode cX8_joinAll 84 = .ok (.iload 4, 2) := by decide +kernel
theorem dX8_joinAll_86 : decode cX8_joinAll 86 = .ok (.iaload, 1) := by decide +kernel
theorem dX8_joinAll_87 : decode cX8_joinAll 87 = .ok (.isub, 1) := by decide +kernel
theorem dX8_joinAll_88 : decode cX8_joinAll 88 = .ok (.istore 5, 2) := by decide +kernel
theorem dX8_joinAll_90 : decode cX8_joinAll 90 = .ok (.aload_n 0, 1) := by decide +kernel
theorem dX8_joinAll_91 : decode cX8_joinAll 91 = .ok (.getfield 53, 3) := by decide +kernel
theorem dX8_joinAll_94 : decode cX8_joinAll 94 = .ok (.iload_n 3, 1) := by decide +kernel
theorem dX8_joinAll_95 : decode cX8_joinAll 95 = .ok (.iaload, 1) := by decide +kernel
theorem dX8_joinAll_96 : decode cX8_joinAll 96 = .ok (.aload_n 0, 1) := by decide +kernel
theorem dX8_joinAll_97 : decode cX8_joinAll 97 = .ok (.getfield 53, 3) := by decide +kernel
theorem dX8_joinAll_100 : decode cX8_joinAll 100 = .ok (.iload 4, 2) := by decide +kernel
theorem dX8_joinAll_102 : decode cX8_joinAll 102 = .ok (.iaload, 1) := by decide +kernel
theorem dX8_joinAll_103 : decode cX8_joinAll 103 = .ok (.if_icmp .ne 81, 3) := by decide +kernel
theorem dX8_joinAll_106 : decode cX8_joinAll 106 = .ok (.iload 5, 2) := by decide +kernel
theorem dX8_joinAll_108 : decode cX8_joinAll 108 = .ok (.aload_n 0, 1) := by decide +kernel
theorem dX8_joinAll_109 : decode cX8_joinAll 109 = .ok (.getfield 38, 3) := by decide +kernel
theorem dX8_joinAll_112 : decode cX8_joinAll 112 = .ok (.aload_n 0, 1) := by decide +kernel
theorem dX8_joinAll_113 : decode cX8_joinAll 113 = .ok (.getfield 97, 3) := by decide +kernel
theorem dX8_joinAll_116 : decode cX8_joinAll 116 = .ok (.iaload, 1) := by decide +kernel
theorem dX8_joinAll_117 : decode cX8_joinAll 117 = .ok (.if_icmp .gt 67, 3) := by decide +kernel
theorem dX8_joinAll_120 : decode cX8_joinAll 120 = .ok (.iload 5, 2) := by decide +kernel
theorem dX8_joinAll_122 : decode cX8_joinAll 122 = .ok (.ineg, 1) := by decide +kernel
theorem dX8_joinAll_123 : decode cX8_joinAll 123 = .ok (.aload_n 0, 1) := by decide +kernel
theorem dX8_joinAll_124 : decode cX8_joinAll 124 = .ok (.getfield 38, 3) := by decide +kernel
theorem dX8_joinAll_127 : decode cX8_joinAll 127 = .ok (.aload_n 0, 1) := by decide +kernel
theorem dX8_joinAll_128 : decode cX8_joinAll 128 = .ok (.getfield 97, 3) := by decide +kernel
theorem dX8_joinAll_131 : decode cX8_joinAll 131 = .ok (.iaload, 1) := by decide +kernel
theorem dX8_joinAll_132 : decode cX8_joinAll 132 = .ok (.if_icmp .gt 52, 3) := by decide +kernel
theorem dX8_joinAll_135 : decode cX8_joinAll 135 = .ok (.aload_n 0, 1) := by decide +kernel
theorem dX8_joinAll_136 : decode cX8_joinAll 136 = .ok (.iload 5, 2) := by decide +kernel
theorem dX8_joinAll_138 : decode cX8_joinAll 138 = .ok (.ifCond .le 12, 3) := by decide +kernel
theorem dX8_joinAll_141 : decode cX8_joinAll 141 = .ok (.aload_n 0, 1) := by decide +kernel
theorem dX8_joinAll_142 : decode cX8_joinAll 142 = .ok (.getfield 50, 3) := by decide +kernel
theorem dX8_joinAll_145 : decode cX8_joinAll 145 = .ok (.iload_n 3, 1) := by decide +kernel
theorem dX8_joinAll_146 : decode cX8_joinAll 146 = .ok (.iaload, 1) := by decide +kernel
theorem dX8_joinAll_147 : decode cX8_joinAll 147 = .ok (.goto 10, 3) := by decide +kernel
theorem dX8_joinAll_150 : decode cX8_joinAll 150 = .ok (.aload_n 0, 1) := by decide +kernel
theorem dX8_joinAll_151 : decode cX8_joinAll 151 = .ok (.getfield 50, 3) := by decide +kernel
theorem dX8_joinAll_154 : decode cX8_joinAll 154 = .ok (.iload 4, 2) := by decide +kernel
theorem dX8_joinAll_156 : decode cX8_joinAll 156 = .ok (.iaload, 1) := by decide +kernel
theorem dX8_joinAll_157 : decode cX8_joinAll 157 = .ok (.aload_n 0, 1) := by decide +kernel
theorem dX8_joinAll_158 : decode cX8_joinAll 158 = .ok (.getfield 53, 3) := by decide +kernel
theorem dX8_joinAll_161 : decode cX8_joinAll 161 = .ok (.iload_n 3, 1) := by decide +kernel
theorem dX8_joinAll_162 : decode cX8_joinAll 162 = .ok (.iaload, 1) := by decide +kernel
theorem dX8_joinAll_163 : decode cX8_joinAll 163 = .ok (.ldc2_w 122, 3) := by decide +kernel
theorem dX8_joinAll_166 : decode cX8_joinAll 166 = .ok (.aload_n 0, 1) := by decide +kernel
theorem dX8_joinAll_167 : decode cX8_joinAll 167 = .ok (.getfield 56, 3) := by decide +kernel
theorem dX8_joinAll_170 : decode cX8_joinAll 170 = .ok (.iload_n 3, 1) := by decide +kernel
theorem dX8_joinAll_171 : decode cX8_joinAll 171 = .ok (.laload, 1) := by decide +kernel
theorem dX8_joinAll_172 : decode cX8_joinAll 172 = .ok (.lmul, 1) := by decide +kernel
theorem dX8_joinAll_173 : decode cX8_joinAll 173 = .ok (.aload_n 0, 1) := by decide +kernel
theorem dX8_joinAll_174 : decode cX8_joinAll 174 = .ok (.getfield 56, 3) := by decide +kernel
theorem dX8_joinAll_177 : decode cX8_joinAll 177 = .ok (.iload 4, 2) := by decide +kernel
theorem dX8_joinAll_179 : decode cX8_joinAll 179 = .ok (.laload, 1) := by decide +kernel
theorem dX8_joinAll_180 : decode cX8_joinAll 180 = .ok (.ladd, 1) := by decide +kernel
theorem dX8_joinAll_181 : decode cX8_joinAll 181 = .ok (.invokevirtual 105, 3) := by decide +kernel
theorem dX8_joinAll_184 : decode cX8_joinAll 184 = .ok (.iinc 4 1, 3) := by decide +kernel
theorem dX8_joinAll_187 : decode cX8_joinAll 187 = .ok (.goto (-134), 3) := by decide +kernel
theorem dX8_joinAll_190 : decode cX8_joinAll 190 = .ok (.iinc 3 1, 3) := by decide +kernel
theorem dX8_joinAll_193 : decode cX8_joinAll 193 = .ok (.goto (-163), 3) := by decide +kernel
theorem dX8_joinAll_196 : decode cX8_joinAll 196 = .ok (.aload_n 0, 1) := by decide +kernel
theorem dX8_joinAll_197 : decode cX8_joinAll 197 = .ok (.iconst 0, 1) := by decide +kernel
theorem dX8_joinAll_198 : decode cX8_joinAll 198 = .ok (.invokevirtual 109, 3) := by decide +kernel
theorem dX8_joinAll_201 : decode cX8_joinAll 201 = .ok (.return_, 1) := by decide +kernel
theorem dX8_meetAll_0 : decode cX8_meetAll 0 = .ok (.sipush 201, 3) := by decide +kernel
theorem dX8_meetAll_3 : decode cX8_meetAll 3 = .ok (.aload_n 0, 1) := by decide +kernel
theorem dX8_meetAll_4 : decode cX8_meetAll 4 = .ok (.getfield 32, 3) := by decide +kernel
theorem dX8_meetAll_7 : decode cX8_meetAll 7 = .ok (.aload_n 0, 1) := by decide +kernel
theorem dX8_meetAll_8 : decode cX8_meetAll 8 = .ok (.getfield 97, 3) := by decide +kernel
theorem dX8_meetAll_11 : decode cX8_meetAll 11 = .ok (.iaload, 1) := by decide +kernel
theorem dX8_meetAll_12 : decode cX8_meetAll 12 = .ok (.imul, 1) := by decide +kernel
theorem dX8_meetAll_13 : decode cX8_meetAll 13 = .ok (.istore_n 1, 1) := by decide +kernel
theorem dX8_meetAll_14 : decode cX8_meetAll 14 = .ok (.iload_n 1, 1) := by decide +kernel
theorem dX8_meetAll_15 : decode cX8_meetAll 15 = .ok (.sipush 201, 3) := by decide +kernel
theorem dX8_meetAll_18 : decode cX8_meetAll 18 = .ok (.aload_n 0, 1) := by decide +kernel
theorem dX8_meetAll_19 : decode cX8_meetAll 19 = .ok (.getfield 32, 3) := by decide +kernel
theorem dX8_meetAll_22 : decode cX8_meetAll 22 = .ok (.aload_n 0, 1) := by decide +kernel
theorem dX8_meetAll_23 : decode cX8_meetAll 23 = .ok (.getfield 97, 3) := by decide +kernel
theorem dX8_meetAll_26 : decode cX8_meetAll 26 = .ok (.iaload, 1) := by decide +kernel
theorem dX8_meetAll_27 : decode cX8_meetAll 27 = .ok (.imul, 1) := by decide +kernel
theorem dX8_meetAll_28 : decode cX8_meetAll 28 = .ok (.aload_n 0, 1) := by decide +kernel
theorem dX8_meetAll_29 : decode cX8_meetAll 29 = .ok (.getfield 44, 3) := by decide +kernel
theorem dX8_meetAll_32 : decode cX8_meetAll 32 = .ok (.aload_n 0, 1) := by decide +kernel
theorem dX8_meetAll_33 : decode cX8_meetAll 33 = .ok (.getfield 32, 3) := by decide +kernel
theorem dX8_meetAll_36 : decode cX8_meetAll 36 = .ok (.aload_n 0, 1) := by decide +kernel
theorem dX8_meetAll_37 : decode cX8_meetAll 37 = .ok (.getfield 97, 3) := by decide +kernel
theorem dX8_meetAll_40 : decode cX8_meetAll 40 = .ok (.iaload, 1) := by decide +kernel
theorem dX8_meetAll_41 : decode cX8_meetAll 41 = .ok (.iaload, 1) := by decide +kernel
theorem dX8_meetAll_42 : decode cX8_meetAll 42 = .ok (.iadd, 1) := by decide +kernel
theorem dX8_meetAll_43 : decode cX8_meetAll 43 = .ok (.if_icmp .ge 31, 3) := by decide +kernel
theorem dX8_meetAll_46 : decode cX8_meetAll 46 = .ok (.aload_n 0, 1) := by decide +kernel
theorem dX8_meetAll_47 : decode cX8_meetAll 47 = .ok (.aload_n 0, 1) := by decide +kernel
theorem dX8_meetAll_48 : decode cX8_meetAll 48 = .ok (.getfield 50, 3) := by decide +kernel
theorem dX8_meetAll_51 : decode cX8_meetAll 51 = .ok (.iload_n 1, 1) := by decide +kernel
theorem dX8_meetAll_52 : decode cX8_meetAll 52 = .ok (.iaload, 1) := by decide +kernel
theorem dX8_meetAll_53 : decode cX8_meetAll 53 = .ok (.aload_n 0, 1) := by decide +kernel
theorem dX8_meetAll_54 : decode cX8_meetAll 54 = .ok (.getfield 53, 3) := by decide +kernel
theorem dX8_meetAll_57 : decode cX8_meetAll 57 = .ok (.iload_n 1, 1) := by decide +kernel
theorem dX8_meetAll_58 : decode cX8_meetAll 58 = .ok (.iaload, 1) := by decide +kernel
theorem dX8_meetAll_59 : decode cX8_meetAll 59 = .ok (.aload_n 0, 1) := by decide +kernel
theorem dX8_meetAll_60 : decode cX8_meetAll 60 = .ok (.getfield 56, 3) := by decide +kernel
theorem dX8_meetAll_63 : decode cX8_meetAll 63 = .ok (.iload_n 1, 1) := by decide +kernel
theorem dX8_meetAll_64 : decode cX8_meetAll 64 = .ok (.laload, 1) := by decide +kernel
theorem dX8_meetAll_65 : decode cX8_meetAll 65 = .ok (.invokevirtual 105, 3) := by decide +kernel
theorem dX8_meetAll_68 : decode cX8_meetAll 68 = .ok (.iinc 1 1, 3) := by decide +kernel
theorem dX8_meetAll_71 : decode cX8_meetAll 71 = .ok (.goto (-57), 3) := by decide +kernel
theorem dX8_meetAll_74 : decode cX8_meetAll 74 = .ok (.sipush 201, 3) := by decide +kernel
theorem dX8_meetAll_77 : decode cX8_meetAll 77 = .ok (.aload_n 0, 1) := by decide +kernel
theorem dX8_meetAll_78 : decode cX8_meetAll 78 = .ok (.getfield 35, 3) := by decide +kernel
theorem dX8_meetAll_81 : decode cX8_meetAll 81 = .ok (.aload_n 0, 1) := by decide +kernel
theorem dX8_meetAll_82 : decode cX8_meetAll 82 = .ok (.getfield 97, 3) := by decide +kernel
theorem dX8_meetAll_85 : decode cX8_meetAll 85 = .ok (.iaload, 1) := by decide +kernel
theorem dX8_meetAll_86 : decode cX8_meetAll 86 = .ok (.imul, 1) := by decide +kernel
theorem dX8_meetAll_87 : decode cX8_meetAll 87 = .ok (.istore_n 1, 1) := by decide +kernel
theorem dX8_meetAll_88 : decode cX8_meetAll 88 = .ok (.iload_n 1, 1) := by decide +kernel
theorem dX8_meetAll_89 : decode cX8_meetAll 89 = .ok (.sipush 201, 3) := by decide +kernel
theorem dX8_meetAll_92 : decode cX8_meetAll 92 = .ok (.aload_n 0, 1) := by decide +kernel
theorem dX8_meetAll_93 : decode cX8_meetAll 93 = .ok (.getfield 35, 3) := by decide +kernel
theorem dX8_meetAll_96 : decode cX8_meetAll 96 = .ok (.aload_n 0, 1) := by decide +kernel
theorem dX8_meetAll_97 : decode cX8_meetAll 97 = .ok (.getfield 97, 3) := by decide +kernel
theorem dX8_meetAll_100 : decode cX8_meetAll 100 = .ok (.iaload, 1) := by decide +kernel
theorem dX8_meetAll_101 : decode cX8_meetAll 101 = .ok (.imul, 1) := by decide +kernel
theorem dX8_meetAll_102 : decode cX8_meetAll 102 = .ok (.aload_n 0, 1) := by decide +kernel
theorem dX8_meetAll_103 : decode cX8_meetAll 103 = .ok (.getfield 44, 3) := by decide +kernel
theorem dX8_meetAll_106 : decode cX8_meetAll 106 = .ok (.aload_n 0, 1) := by decide +kernel
theorem dX8_meetAll_107 : decode cX8_meetAll 107 = .ok (.getfield 35, 3) := by decide +kernel
theorem dX8_meetAll_110 : decode cX8_meetAll 110 = .ok (.aload_n 0, 1) := by decide +kernel
theorem dX8_meetAll_111 : decode cX8_meetAll 111 = .ok (.getfield 97, 3) := by decide +kernel
theorem dX8_meetAll_114 : decode cX8_meetAll 114 = .ok (.iaload, 1) := by decide +kernel
theorem dX8_meetAll_115 : decode cX8_meetAll 115 = .ok (.iaload, 1) := by decide +kernel
theorem dX8_meetAll_116 : decode cX8_meetAll 116 = .ok (.iadd, 1) := by decide +kernel
