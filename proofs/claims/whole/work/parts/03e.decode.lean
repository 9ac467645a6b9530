/-! decode rows (claim/NAMES.whole.lean.txt) -/
theorem dX8_meetAll_117 : decode cX8_meetAll 117 = .ok (.if_icmp .ge 31, 3) := by decide +kernel
theorem dX8_meetAll_120 : decode cX8_meetAll 120 = .ok (.aload_n 0, 1) := by decide +kernel
theorem dX8_meetAll_121 : decode cX8_meetAll 121 = .ok (.aload_n 0, 1) := by decide +kernel
theorem dX8_meetAll_122 : decode cX8_meetAll 122 = .ok (.getfield 50, 3) := by decide +kernel
theorem dX8_meetAll_125 : decode cX8_meetAll 125 = .ok (.iload_n 1, 1) := by decide +kernel
theorem dX8_meetAll_126 : decode cX8_meetAll 126 = .ok (.iaload, 1) := by decide +kernel
theorem dX8_meetAll_127 : decode cX8_meetAll 127 = .ok (.aload_n 0, 1) := by decide +kernel
theorem dX8_meetAll_128 : decode cX8_meetAll 128 = .ok (.getfield 53, 3) := by decide +kernel
theorem dX8_meetAll_131 : decode cX8_meetAll 131 = .ok (.iload_n 1, 1) := by decide +kernel
theorem dX8_meetAll_132 : decode cX8_meetAll 132 = .ok (.iaload, 1) := by decide +kernel
theorem dX8_meetAll_133 : decode cX8_meetAll 133 = .ok (.aload_n 0, 1) := by decide +kernel
theorem dX8_meetAll_134 : decode cX8_meetAll 134 = .ok (.getfield 56, 3) := by decide +kernel
theorem dX8_meetAll_137 : decode cX8_meetAll 137 = .ok (.iload_n 1, 1) := by decide +kernel
theorem dX8_meetAll_138 : decode cX8_meetAll 138 = .ok (.laload, 1) := by decide +kernel
theorem dX8_meetAll_139 : decode cX8_meetAll 139 = .ok (.invokevirtual 105, 3) := by decide +kernel
theorem dX8_meetAll_142 : decode cX8_meetAll 142 = .ok (.iinc 1 1, 3) := by decide +kernel
theorem dX8_meetAll_145 : decode cX8_meetAll 145 = .ok (.goto (-57), 3) := by decide +kernel
theorem dX8_meetAll_148 : decode cX8_meetAll 148 = .ok (.aload_n 0, 1) := by decide +kernel
theorem dX8_meetAll_149 : decode cX8_meetAll 149 = .ok (.iconst 0, 1) := by decide +kernel
theorem dX8_meetAll_150 : decode cX8_meetAll 150 = .ok (.invokevirtual 109, 3) := by decide +kernel
theorem dX8_meetAll_153 : decode cX8_meetAll 153 = .ok (.return_, 1) := by decide +kernel
theorem dX8_fallAll_0 : decode cX8_fallAll 0 = .ok (.sipush 201, 3) := by decide +kernel
theorem dX8_fallAll_3 : decode cX8_fallAll 3 = .ok (.aload_n 0, 1) := by decide +kernel
theorem dX8_fallAll_4 : decode cX8_fallAll 4 = .ok (.getfield 32, 3) := by decide +kernel
theorem dX8_fallAll_7 : decode cX8_fallAll 7 = .ok (.aload_n 0, 1) := by decide +kernel
theorem dX8_fallAll_8 : decode cX8_fallAll 8 = .ok (.getfield 97, 3) := by decide +kernel
theorem dX8_fallAll_11 : decode cX8_fallAll 11 = .ok (.iaload, 1) := by decide +kernel
theorem dX8_fallAll_12 : decode cX8_fallAll 12 = .ok (.imul, 1) := by decide +kernel
theorem dX8_fallAll_13 : decode cX8_fallAll 13 = .ok (.istore_n 1, 1) := by decide +kernel
theorem dX8_fallAll_14 : decode cX8_fallAll 14 = .ok (.iload_n 1, 1) := by decide +kernel
theorem dX8_fallAll_15 : decode cX8_fallAll 15 = .ok (.aload_n 0, 1) := by decide +kernel
theorem dX8_fallAll_16 : decode cX8_fallAll 16 = .ok (.getfield 44, 3) := by decide +kernel
theorem dX8_fallAll_19 : decode cX8_fallAll 19 = .ok (.aload_n 0, 1) := by decide +kernel
theorem dX8_fallAll_20 : decode cX8_fallAll 20 = .ok (.getfield 32, 3) := by decide +kernel
theorem dX8_fallAll_23 : decode cX8_fallAll 23 = .ok (.aload_n 0, 1) := by decide +kernel
theorem dX8_fallAll_24 : decode cX8_fallAll 24 = .ok (.getfield 97, 3) := by decide +kernel
theorem dX8_fallAll_27 : decode cX8_fallAll 27 = .ok (.iaload, 1) := by decide +kernel
theorem dX8_fallAll_28 : decode cX8_fallAll 28 = .ok (.iaload, 1) := by decide +kernel
theorem dX8_fallAll_29 : decode cX8_fallAll 29 = .ok (.iadd, 1) := by decide +kernel
theorem dX8_fallAll_30 : decode cX8_fallAll 30 = .ok (.istore_n 2, 1) := by decide +kernel
theorem dX8_fallAll_31 : decode cX8_fallAll 31 = .ok (.iload_n 1, 1) := by decide +kernel
theorem dX8_fallAll_32 : decode cX8_fallAll 32 = .ok (.istore_n 3, 1) := by decide +kernel
theorem dX8_fallAll_33 : decode cX8_fallAll 33 = .ok (.iload_n 3, 1) := by decide +kernel
theorem dX8_fallAll_34 : decode cX8_fallAll 34 = .ok (.iload_n 2, 1) := by decide +kernel
theorem dX8_fallAll_35 : decode cX8_fallAll 35 = .ok (.if_icmp .ge 122, 3) := by decide +kernel
theorem dX8_fallAll_38 : decode cX8_fallAll 38 = .ok (.iload_n 3, 1) := by decide +kernel
theorem dX8_fallAll_39 : decode cX8_fallAll 39 = .ok (.iconst 1, 1) := by decide +kernel
theorem dX8_fallAll_40 : decode cX8_fallAll 40 = .ok (.iadd, 1) := by decide +kernel
theorem dX8_fallAll_41 : decode cX8_fallAll 41 = .ok (.istore 4, 2) := by decide +kernel
theorem dX8_fallAll_43 : decode cX8_fallAll 43 = .ok (.iload 4, 2) := by decide +kernel
theorem dX8_fallAll_45 : decode cX8_fallAll 45 = .ok (.iload_n 2, 1) := by decide +kernel
theorem dX8_fallAll_46 : decode cX8_fallAll 46 = .ok (.if_icmp .ge 25, 3) := by decide +kernel
theorem dX8_fallAll_49 : decode cX8_fallAll 49 = .ok (.aload_n 0, 1) := by decide +kernel
theorem dX8_fallAll_50 : decode cX8_fallAll 50 = .ok (.getfield 53, 3) := by decide +kernel
theorem dX8_fallAll_53 : decode cX8_fallAll 53 = .ok (.iload 4, 2) := by decide +kernel
theorem dX8_fallAll_55 : decode cX8_fallAll 55 = .ok (.iaload, 1) := by decide +kernel
theorem dX8_fallAll_56 : decode cX8_fallAll 56 = .ok (.aload_n 0, 1) := by decide +kernel
theorem dX8_fallAll_57 : decode cX8_fallAll 57 = .ok (.getfield 53, 3) := by decide +kernel
theorem dX8_fallAll_60 : decode cX8_fallAll 60 = .ok (.iload_n 3, 1) := by decide +kernel
theorem dX8_fallAll_61 : decode cX8_fallAll 61 = .ok (.iaload, 1) := by decide +kernel
theorem dX8_fallAll_62 : decode cX8_fallAll 62 = .ok (.if_icmp .eq 9, 3) := by decide +kernel
theorem dX8_fallAll_65 : decode cX8_fallAll 65 = .ok (.iinc 4 1, 3) := by decide +kernel
theorem dX8_fallAll_68 : decode cX8_fallAll 68 = .ok (.goto (-25), 3) := by decide +kernel
theorem dX8_fallAll_71 : decode cX8_fallAll 71 = .ok (.iload 4, 2) := by decide +kernel
theorem dX8_fallAll_73 : decode cX8_fallAll 73 = .ok (.iload_n 2, 1) := by decide +kernel
theorem dX8_fallAll_74 : decode cX8_fallAll 74 = .ok (.if_icmp .ge 77, 3) := by decide +kernel
theorem dX8_fallAll_77 : decode cX8_fallAll 77 = .ok (.aload_n 0, 1) := by decide +kernel
theorem dX8_fallAll_78 : decode cX8_fallAll 78 = .ok (.getfield 56, 3) := by decide +kernel
theorem dX8_fallAll_81 : decode cX8_fallAll 81 = .ok (.iload 4, 2) := by decide +kernel
theorem dX8_fallAll_83 : decode cX8_fallAll 83 = .ok (.laload, 1) := by decide +kernel
theorem dX8_fallAll_84 : decode cX8_fallAll 84 = .ok (.aload_n 0, 1) := by decide +kernel
theorem dX8_fallAll_85 : decode cX8_fallAll 85 = .ok (.getfield 56, 3) := by decide +kernel
theorem dX8_fallAll_88 : decode cX8_fallAll 88 = .ok (.iload_n 3, 1) := by decide +kernel
theorem dX8_fallAll_89 : decode cX8_fallAll 89 = .ok (.laload, 1) := by decide +kernel
theorem dX8_fallAll_90 : decode cX8_fallAll 90 = .ok (.lcmp, 1) := by decide +kernel
theorem dX8_fallAll_91 : decode cX8_fallAll 91 = .ok (.ifCond .ge 60, 3) := by decide +kernel
theorem dX8_fallAll_94 : decode cX8_fallAll 94 = .ok (.aload_n 0, 1) := by decide +kernel
theorem dX8_fallAll_95 : decode cX8_fallAll 95 = .ok (.getfield 50, 3) := by decide +kernel
theorem dX8_fallAll_98 : decode cX8_fallAll 98 = .ok (.iload 4, 2) := by decide +kernel
theorem dX8_fallAll_100 : decode cX8_fallAll 100 = .ok (.iaload, 1) := by decide +kernel
theorem dX8_fallAll_101 : decode cX8_fallAll 101 = .ok (.aload_n 0, 1) := by decide +kernel
theorem dX8_fallAll_102 : decode cX8_fallAll 102 = .ok (.getfield 50, 3) := by decide +kernel
theorem dX8_fallAll_105 : decode cX8_fallAll 105 = .ok (.iload_n 3, 1) := by decide +kernel
theorem dX8_fallAll_106 : decode cX8_fallAll 106 = .ok (.iaload, 1) := by decide +kernel
theorem dX8_fallAll_107 : decode cX8_fallAll 107 = .ok (.isub, 1) := by decide +kernel
theorem dX8_fallAll_108 : decode cX8_fallAll 108 = .ok (.aload_n 0, 1) := by decide +kernel
theorem dX8_fallAll_109 : decode cX8_fallAll 109 = .ok (.getfield 38, 3) := by decide +kernel
theorem dX8_fallAll_112 : decode cX8_fallAll 112 = .ok (.aload_n 0, 1) := by decide +kernel
theorem dX8_fallAll_113 : decode cX8_fallAll 113 = .ok (.getfield 97, 3) := by decide +kernel
theorem dX8_fallAll_116 : decode cX8_fallAll 116 = .ok (.iaload, 1) := by decide +kernel
theorem dX8_fallAll_117 : decode cX8_fallAll 117 = .ok (.if_icmp .gt 34, 3) := by decide +kernel
theorem dX8_fallAll_120 : decode cX8_fallAll 120 = .ok (.aload_n 0, 1) := by decide +kernel
theorem dX8_fallAll_121 : decode cX8_fallAll 121 = .ok (.aload_n 0, 1) := by decide +kernel
theorem dX8_fallAll_122 : decode cX8_fallAll 122 = .ok (.getfield 50, 3) := by decide +kernel
theorem dX8_fallAll_125 : decode cX8_fallAll 125 = .ok (.iload 4, 2) := by decide +kernel
theorem dX8_fallAll_127 : decode cX8_fallAll 127 = .ok (.iaload, 1) := by decide +kernel
theorem dX8_fallAll_128 : decode cX8_fallAll 128 = .ok (.aload_n 0, 1) := by decide +kernel
theorem dX8_fallAll_129 : decode cX8_fallAll 129 = .ok (.getfield 53, 3) := by decide +kernel
theorem dX8_fallAll_132 : decode cX8_fallAll 132 = .ok (.iload_n 3, 1) := by decide +kernel
theorem dX8_fallAll_133 : decode cX8_fallAll 133 = .ok (.iaload, 1) := by decide +kernel
theorem dX8_fallAll_134 : decode cX8_fallAll 134 = .ok (.aload_n 0, 1) := by decide +kernel
theorem dX8_fallAll_135 : decode cX8_fallAll 135 = .ok (.getfield 56, 3) := by decide +kernel
theorem dX8_fallAll_138 : decode cX8_fallAll 138 = .ok (.iload_n 3, 1) := by decide +kernel
theorem dX8_fallAll_139 : decode cX8_fallAll 139 = .ok (.laload, 1) := by decide +kernel
theorem dX8_fallAll_140 : decode cX8_fallAll 140 = .ok (.aload_n 0, 1) := by decide +kernel
theorem dX8_fallAll_141 : decode cX8_fallAll 141 = .ok (.getfield 56, 3) := by decide +kernel
theorem dX8_fallAll_144 : decode cX8_fallAll 144 = .ok (.iload 4, 2) := by decide +kernel
theorem dX8_fallAll_146 : decode cX8_fallAll 146 = .ok (.laload, 1) := by decide +kernel
theorem dX8_fallAll_147 : decode cX8_fallAll 147 = .ok (.lsub, 1) := by decide +kernel
theorem dX8_fallAll_148 : decode cX8_fallAll 148 = .ok (.invokevirtual 105, 3) := by decide +kernel
theorem dX8_fallAll_151 : decode cX8_fallAll 151 = .ok (.iinc 3 1, 3) := by decide +kernel
theorem dX8_fallAll_154 : decode cX8_fallAll 154 = .ok (.goto (-121), 3) := by decide +kernel
theorem dX8_fallAll_157 : decode cX8_fallAll 157 = .ok (.aload_n 0, 1) := by decide +kernel
theorem dX8_fallAll_158 : decode cX8_fallAll 158 = .ok (.iconst 0, 1) := by decide +kernel
theorem dX8_fallAll_159 : decode cX8_fallAll 159 = .ok (.invokevirtual 109, 3) := by decide +kernel
theorem dX8_fallAll_162 : decode cX8_fallAll 162 = .ok (.return_, 1) := by decide +kernel
theorem dX8_firstAll_0 : decode cX8_firstAll 0 = .ok (.sipush 201, 3) := by decide +kernel
theorem dX8_firstAll_3 : decode cX8_firstAll 3 = .ok (.aload_n 0, 1) := by decide +kernel
theorem dX8_firstAll_4 : decode cX8_firstAll 4 = .ok (.getfield 32, 3) := by decide +kernel
theorem dX8_firstAll_7 : decode cX8_firstAll 7 = .ok (.aload_n 0, 1) := by decide +kernel
theorem dX8_firstAll_8 : decode cX8_firstAll 8 = .ok (.getfield 97, 3) := by decide +kernel
theorem dX8_firstAll_11 : decode cX8_firstAll 11 = .ok (.iaload, 1) := by decide +kernel
theorem dX8_firstAll_12 : decode cX8_firstAll 12 = .ok (.imul, 1) := by decide +kernel
theorem dX8_firstAll_13 : decode cX8_firstAll 13 = .ok (.istore_n 1, 1) := by decide +kernel
theorem dX8_firstAll_14 : decode cX8_firstAll 14 = .ok (.iload_n 1, 1) := by decide +kernel
theorem dX8_firstAll_15 : decode cX8_firstAll 15 = .ok (.istore_n 2, 1) := by decide +kernel
theorem dX8_firstAll_16 : decode cX8_firstAll 16 = .ok (.iload_n 2, 1) := by decide +kernel
theorem dX8_firstAll_17 : decode cX8_firstAll 17 = .ok (.iload_n 1, 1) := by decide +kernel
theorem dX8_firstAll_18 : decode cX8_firstAll 18 = .ok (.aload_n 0, 1) := by decide +kernel
theorem dX8_firstAll_19 : decode cX8_firstAll 19 = .ok (.getfield 44, 3) := by decide +kernel
theorem dX8_firstAll_22 : decode cX8_firstAll 22 = .ok (.aload_n 0, 1) := by decide +kernel
theorem dX8_firstAll_23 : decode cX8_firstAll 23 = .ok (.getfield 32, 3) := by decide +kernel
theorem dX8_firstAll_26 : decode cX8_firstAll 26 = .ok (.aload_n 0, 1) := by decide +kernel
theorem dX8_firstAll_27 : decode cX8_firstAll 27 = .ok (.getfield 97, 3) := by decide +kernel
theorem dX8_firstAll_30 : decode cX8_firstAll 30 = .ok (.iaload, 1) := by decide +kernel
theorem dX8_firstAll_31 : decode cX8_firstAll 31 = .ok (.iaload, 1) := by decide +kernel
theorem dX8_firstAll_32 : decode cX8_firstAll 32 = .ok (.iadd, 1) := by decide +kernel
theorem dX8_firstAll_33 : decode cX8_firstAll 33 = .ok (.if_icmp .ge 85, 3) := by decide +kernel
theorem dX8_firstAll_36 : decode cX8_firstAll 36 = .ok (.iconst 0, 1) := by decide +kernel
theorem dX8_firstAll_37 : decode cX8_firstAll 37 = .ok (.istore_n 3, 1) := by decide +kernel
theorem dX8_firstAll_38 : decode cX8_firstAll 38 = .ok (.iload_n 1, 1) := by decide +kernel
theorem dX8_firstAll_39 : decode cX8_firstAll 39 = .ok (.istore 4, 2) := by decide +kernel
theorem dX8_firstAll_41 : decode cX8_firstAll 41 = .ok (.iload 4, 2) := by decide +kernel
theorem dX8_firstAll_43 : decode cX8_firstAll 43 = .ok (.iload_n 2, 1) := by decide +kernel
theorem dX8_firstAll_44 : decode cX8_firstAll 44 = .ok (.if_icmp .ge 33, 3) := by decide +kernel
theorem dX8_firstAll_47 : decode cX8_firstAll 47 = .ok (.iload_n 3, 1) := by decide +kernel
theorem dX8_firstAll_48 : decode cX8_firstAll 48 = .ok (.aload_n 0, 1) := by decide +kernel
theorem dX8_firstAll_49 : decode cX8_firstAll 49 = .ok (.getfield 53, 3) := by decide +kernel
theorem dX8_firstAll_52 : decode cX8_firstAll 52 = .ok (.iload 4, 2) := by decide +kernel
theorem dX8_firstAll_54 : decode cX8_firstAll 54 = .ok (.iaload, 1) := by decide +kernel
theorem dX8_firstAll_55 : decode cX8_firstAll 55 = .ok (.aload_n 0, 1) := by decide +kernel
theorem dX8_firstAll_56 : decode cX8_firstAll 56 = .ok (.getfield 53, 3) := by decide +kernel
theorem dX8_firstAll_59 : decode cX8_firstAll 59 = .ok (.iload_n 2, 1) := by decide +kernel
theorem dX8_firstAll_60 : decode cX8_firstAll 60 = .ok (.iaload, 1) := by decide +kernel
theorem dX8_firstAll_61 : decode cX8_firstAll 61 = .ok (.if_icmp .ne 7, 3) := by decide +kernel
theorem dX8_firstAll_64 : decode cX8_firstAll 64 = .ok (.iconst 1, 1) := by decide +kernel
theorem dX8_firstAll_65 : decode cX8_firstAll 65 = .ok (.goto 4, 3) := by decide +kernel
theorem dX8_firstAll_68 : decode cX8_firstAll 68 = .ok (.iconst 0, 1) := by decide +kernel
theorem dX8_firstAll_69 : decode cX8_firstAll 69 = .ok (.iadd, 1) := by decide +kernel
theorem dX8_firstAll_70 : decode cX8_firstAll 70 = .ok (.istore_n 3, 1) := by decide +kernel
theorem dX8_firstAll_71 : decode cX8_firstAll 71 = .ok (.iinc 4 1, 3) := by decide +kernel
theorem dX8_firstAll_74 : decode cX8_firstAll 74 = .ok (.goto (-33), 3) := by decide +kernel
theorem dX8_firstAll_77 : decode cX8_firstAll 77 = .ok (.iload_n 3, 1) := by decide +kernel
theorem dX8_firstAll_78 : decode cX8_firstAll 78 = .ok (.aload_n 0, 1) := by decide +kernel
theorem dX8_firstAll_79 : decode cX8_firstAll 79 = .ok (.getfield 38, 3) := by decide +kernel
theorem dX8_firstAll_82 : decode cX8_firstAll 82 = .ok (.aload_n 0, 1) := by decide +kernel
theorem dX8_firstAll_83 : decode cX8_firstAll 83 = .ok (.getfield 97, 3) := by decide +kernel
theorem dX8_firstAll_86 : decode cX8_firstAll 86 = .ok (.iaload, 1) := by decide +kernel
theorem dX8_firstAll_87 : decode cX8_firstAll 87 = .ok (.if_icmp .ge 25, 3) := by decide +kernel
theorem dX8_firstAll_90 : decode cX8_firstAll 90 = .ok (.aload_n 0, 1) := by decide +kernel
theorem dX8_firstAll_91 : decode cX8_firstAll 91 = .ok (.aload_n 0, 1) := by decide +kernel
theorem dX8_firstAll_92 : decode cX8_firstAll 92 = .ok (.getfield 50, 3) := by decide +kernel
theorem dX8_firstAll_95 : decode cX8_firstAll 95 = .ok (.iload_n 2, 1) := by decide +kernel
theorem dX8_firstAll_96 : decode cX8_firstAll 96 = .ok (.iaload, 1) := by decide +kernel
theorem dX8_firstAll_97 : decode cX8_firstAll 97 = .ok (.aload_n 0, 1) := by decide +kernel
theorem dX8_firstAll_98 : decode cX8_firstAll 98 = .ok (.getfield 53, 3) := by decide +kernel
theorem dX8_firstAll_101 : decode cX8_firstAll 101 = .ok (.iload_n 2, 1) := by decide +kernel
theorem dX8_firstAll_102 : decode cX8_firstAll 102 = .ok (.iaload, 1) := by decide +kernel
theorem dX8_firstAll_103 : decode cX8_firstAll 103 = .ok (.aload_n 0, 1) := by decide +kernel
theorem dX8_firstAll_104 : decode cX8_firstAll 104 = .ok (.getfield 56, 3) := by decide +kernel
theorem dX8_firstAll_107 : decode cX8_firstAll 107 = .ok (.iload_n 2, 1) := by decide +kernel
theorem dX8_firstAll_108 : decode cX8_firstAll 108 = .ok (.laload, 1) := by decide +kernel
theorem dX8_firstAll_109 : decode cX8_firstAll 109 = .ok (.invokevirtual 105, 3) := by decide +kernel
theorem dX8_firstAll_112 : decode cX8_firstAll 112 = .ok (.iinc 2 1, 3) := by decide +kernel
theorem dX8_firstAll_115 : decode cX8_firstAll 115 = .ok (.goto (-99), 3) := by decide +kernel
theorem dX8_firstAll_118 : decode cX8_firstAll 118 = .ok (.return_, 1) := by decide +kernel
theorem dX8_judge_0 : decode cX8_judge 0 = .ok (.aload_n 0, 1) := by decide +kernel
theorem dX8_judge_1 : decode cX8_judge 1 = .ok (.getfield 72, 3) := by decide +kernel
theorem dX8_judge_4 : decode cX8_judge 4 = .ok (.ifCond .ne 6, 3) := by decide +kernel
theorem dX8_judge_7 : decode cX8_judge 7 = .ok (.bipush (-3), 2) := by decide +kernel
theorem dX8_judge_9 : decode cX8_judge 9 = .ok (.ireturn, 1) := by decide +kernel
theorem dX8_judge_10 : decode cX8_judge 10 = .ok (.aload_n 0, 1) := by decide +kernel
theorem dX8_judge_11 : decode cX8_judge 11 = .ok (.getfield 117, 3) := by decide +kernel
theorem dX8_judge_14 : decode cX8_judge 14 = .ok (.sipush 3000, 3) := by decide +kernel
theorem dX8_judge_17 : decode cX8_judge 17 = .ok (.if_icmp .lt 6, 3) := by decide +kernel
theorem dX8_judge_20 : decode cX8_judge 20 = .ok (.bipush (-5), 2) := by decide +kernel
theorem dX8_judge_22 : decode cX8_judge 22 = .ok (.ireturn, 1) := by decide +kernel
theorem dX8_judge_23 : decode cX8_judge 23 = .ok (.iconst 0, 1) := by decide +kernel
theorem dX8_judge_24 : decode cX8_judge 24 = .ok (.istore_n 1, 1) := by decide +kernel
theorem dX8_judge_25 : decode cX8_judge 25 = .ok (.aload_n 0, 1) := by decide +kernel
theorem dX8_judge_26 : decode cX8_judge 26 = .ok (.iconst 0, 1) := by decide +kernel
theorem dX8_judge_27 : decode cX8_judge 27 = .ok (.putfield 97, 3) := by decide +kernel
theorem dX8_judge_30 : decode cX8_judge 30 = .ok (.aload_n 0, 1) := by decide +kernel
theorem dX8_judge_31 : decode cX8_judge 31 = .ok (.getfield 97, 3) := by decide +kernel
theorem dX8_judge_34 : decode cX8_judge 34 = .ok (.aload_n 0, 1) := by decide +kernel
theorem dX8_judge_35 : decode cX8_judge 35 = .ok (.getfield 72, 3) := by decide +kernel
theorem dX8_judge_38 : decode cX8_judge 38 = .ok (.if_icmp .ge 196, 3) := by decide +kernel
theorem dX8_judge_41 : decode cX8_judge 41 = .ok (.aload_n 0, 1) := by decide +kernel
theorem dX8_judge_42 : decode cX8_judge 42 = .ok (.getfield 44, 3) := by decide +kernel
theorem dX8_judge_45 : decode cX8_judge 45 = .ok (.aload_n 0, 1) := by decide +kernel
theorem dX8_judge_46 : decode cX8_judge 46 = .ok (.getfield 97, 3) := by decide +kernel
theorem dX8_judge_49 : decode cX8_judge 49 = .ok (.iconst 0, 1) := by decide +kernel
theorem dX8_judge_50 : decode cX8_judge 50 = .ok (.iastore, 1) := by decide +kernel
theorem dX8_judge_51 : decode cX8_judge 51 = .ok (.aload_n 0, 1) := by decide +kernel
theorem dX8_judge_52 : decode cX8_judge 52 = .ok (.getfield 47, 3) := by decide +kernel
theorem dX8_judge_55 : decode cX8_judge 55 = .ok (.iconst 2, 1) := by decide +kernel
theorem dX8_judge_56 : decode cX8_judge 56 = .ok (.aload_n 0, 1) := by decide +kernel
theorem dX8_judge_57 : decode cX8_judge 57 = .ok (.getfield 97, 3) := by decide +kernel
theorem dX8_judge_60 : decode cX8_judge 60 = .ok (.imul, 1) := by decide +kernel
theorem dX8_judge_61 : decode cX8_judge 61 = .ok (.iconst 0, 1) := by decide +kernel
theorem dX8_judge_62 : decode cX8_judge 62 = .ok (.iastore, 1) := by decide +kernel
theorem dX8_judge_63 : decode cX8_judge 63 = .ok (.aload_n 0, 1) := by decide +kernel
theorem dX8_judge_64 : decode cX8_judge 64 = .ok (.getfield 47, 3) := by decide +kernel
theorem dX8_judge_67 : decode cX8_judge 67 = .ok (.iconst 2, 1) := by decide +kernel
theorem dX8_judge_68 : decode cX8_judge 68 = .ok (.aload_n 0, 1) := by decide +kernel
theorem dX8_judge_69 : decode cX8_judge 69 = .ok (.getfield 97, 3) := by decide +kernel
theorem dX8_judge_72 : decode cX8_judge 72 = .ok (.imul, 1) := by decide +kernel
theorem dX8_judge_73 : decode cX8_judge 73 = .ok (.iconst 1, 1) := by decide +kernel
theorem dX8_judge_74 : decode cX8_judge 74 = .ok (.iadd, 1) := by decide +kernel
theorem dX8_judge_75 : decode cX8_judge 75 = .ok (.iconst 0, 1) := by decide +kernel
theorem dX8_judge_76 : decode cX8_judge 76 = .ok (.iastore, 1) := by decide +kernel
theorem dX8_judge_77 : decode cX8_judge 77 = .ok (.aload_n 0, 1) := by decide +kernel
theorem dX8_judge_78 : decode cX8_judge 78 = .ok (.getfield 29, 3) := by decide +kernel
theorem dX8_judge_81 : decode cX8_judge 81 = .ok (.aload_n 0, 1) := by decide +kernel
theorem dX8_judge_82 : decode cX8_judge 82 = .ok (.getfield 97, 3) := by decide +kernel
theorem dX8_judge_85 : decode cX8_judge 85 = .ok (.iaload, 1) := by decide +kernel
theorem dX8_judge_86 : decode cX8_judge 86 = .ok (.istore_n 2, 1) := by decide +kernel
theorem dX8_judge_87 : decode cX8_judge 87 = .ok (.aload_n 0, 1) := by decide +kernel
theorem dX8_judge_88 : decode cX8_judge 88 = .ok (.getfield 41, 3) := by decide +kernel
theorem dX8_judge_91 : decode cX8_judge 91 = .ok (.aload_n 0, 1) := by decide +kernel
theorem dX8_judge_92 : decode cX8_judge 92 = .ok (.getfield 97, 3) := by decide +kernel
theorem dX8_judge_95 : decode cX8_judge 95 = .ok (.iload_n 2, 1) := by decide +kernel
theorem dX8_judge_96 : decode cX8_judge 96 = .ok (.ifCond .eq 20, 3) := by decide +kernel
theorem dX8_judge_99 : decode cX8_judge 99 = .ok (.aload_n 0, 1) := by decide +kernel
theorem dX8_judge_100 : decode cX8_judge 100 = .ok (.getfield 41, 3) := by decide +kernel
theorem dX8_judge_103 : decode cX8_judge 103 = .ok (.aload_n 0, 1) := by decide +kernel
theorem dX8_judge_104 : decode cX8_judge 104 = .ok (.getfield 32, 3) := by decide +kernel
theorem dX8_judge_107 : decode cX8_judge 107 = .ok (.aload_n 0, 1) := by decide +kernel
theorem dX8_judge_108 : decode cX8_judge 108 = .ok (.getfield 97, 3) := by decide +kernel
theorem dX8_judge_111 : decode cX8_judge 111 = .ok (.iaload, 1) := by decide +kernel
theorem dX8_judge_112 : decode cX8_judge 112 = .ok (.baload, 1) := by decide +kernel
theorem dX8_judge_113 : decode cX8_judge 113 = .ok (.ifCond .ne 31, 3) := by decide +kernel
theorem dX8_judge_116 : decode cX8_judge 116 = .ok (.iload_n 2, 1) := by decide +kernel
theorem dX8_judge_117 : decode cX8_judge 117 = .ok (.iconst 5, 1) := by decide +kernel
theorem dX8_judge_118 : decode cX8_judge 118 = .ok (.if_icmp .eq 9, 3) := by decide +kernel
theorem dX8_judge_121 : decode cX8_judge 121 = .ok (.iload_n 2, 1) := by decide +kernel
theorem dX8_judge_122 : decode cX8_judge 122 = .ok (.bipush 6, 2) := by decide +kernel
theorem dX8_judge_124 : decode cX8_judge 124 = .ok (.if_icmp .ne 24, 3) := by decide +kernel
theorem dX8_judge_127 : decode cX8_judge 127 = .ok (.aload_n 0, 1) := by decide +kernel
theorem dX8_judge_128 : decode cX8_judge 128 = .ok (.getfield 41, 3) := by decide +kernel
theorem dX8_judge_131 : decode cX8_judge 131 = .ok (.aload_n 0, 1) := by decide +kernel
theorem dX8_judge_132 : decode cX8_judge 132 = .ok (.getfield 35, 3) := by decide +kernel
theorem dX8_judge_135 : decode cX8_judge 135 = .ok (.aload_n 0, 1) := by decide +kernel
theorem dX8_judge_136 : decode cX8_judge 136 = .ok (.getfield 97, 3) := by decide +kernel
theorem dX8_judge_139 : decode cX8_judge 139 = .ok (.iaload, 1) := by decide +kernel
theorem dX8_judge_140 : decode cX8_judge 140 = .ok (.baload, 1) := by decide +kernel
theorem dX8_judge_141 : decode cX8_judge 141 = .ok (.ifCond .eq 7, 3) := by decide +kernel
theorem dX8_judge_144 : decode cX8_judge 144 = .ok (.iconst 1, 1) := by decide +kernel
theorem dX8_judge_145 : decode cX8_judge 145 = .ok (.goto 4, 3) := by decide +kernel
theorem dX8_judge_148 : decode cX8_judge 148 = .ok (.iconst 0, 1) := by decide +kernel
theorem dX8_judge_149 : decode cX8_judge 149 = .ok (.bastore, 1) := by decide +kernel
theorem dX8_judge_150 : decode cX8_judge 150 = .ok (.aload_n 0, 1) := by decide +kernel
theorem dX8_judge_151 : decode cX8_judge 151 = .ok (.getfield 41, 3) := by decide +kernel
theorem dX8_judge_154 : decode cX8_judge 154 = .ok (.aload_n 0, 1) := by decide +kernel
theorem dX8_judge_155 : decode cX8_judge 155 = .ok (.getfield 97, 3) := by decide +kernel
theorem dX8_judge_158 : decode cX8_judge 158 = .ok (.baload, 1) := by decide +kernel
theorem dX8_judge_159 : decode cX8_judge 159 = .ok (.ifCond .ne 8, 3) := by decide +kernel
theorem dX8_judge_162 : decode cX8_judge 162 = .ok (.aload_n 0, 1) := by decide +kernel
theorem dX8_judge_163 : decode cX8_judge 163 = .ok (.iload_n 2, 1) := by decide +kernel
theorem dX8_judge_164 : decode cX8_judge 164 = .ok (.invokevirtual 124, 3) := by decide +kernel
theorem dX8_judge_167 : decode cX8_judge 167 = .ok (.aload_n 0, 1) := by decide +kernel
theorem dX8_judge_168 : decode cX8_judge 168 = .ok (.getfield 44, 3) := by decide +kernel
theorem dX8_judge_171 : decode cX8_judge 171 = .ok (.aload_n 0, 1) := by decide +kernel
theorem dX8_judge_172 : decode cX8_judge 172 = .ok (.getfield 97, 3) := by decide +kernel
theorem dX8_judge_175 : decode cX8_judge 175 = .ok (.aload_n 0, 1) := by decide +kernel
theorem dX8_judge_176 : decode cX8_judge 176 = .ok (.getfield 41, 3) := by decide +kernel
theorem dX8_judge_179 : decode cX8_judge 179 = .ok (.aload_n 0, 1) := by decide +kernel
theorem dX8_judge_180 : decode cX8_judge 180 = .ok (.getfield 97, 3) := by decide +kernel
theorem dX8_judge_183 : decode cX8_judge 183 = .ok (.baload, 1) := by decide +kernel
theorem dX8_judge_184 : decode cX8_judge 184 = .ok (.ifCond .eq 7, 3) := by decide +kernel
theorem dX8_judge_187 : decode cX8_judge 187 = .ok (.iconst 0, 1) := by decide +kernel
theorem dX8_judge_188 : decode cX8_judge 188 = .ok (.goto 12, 3) := by decide +kernel
theorem dX8_judge_191 : decode cX8_judge 191 = .ok (.aload_n 0, 1) := by decide +kernel
theorem dX8_judge_192 : decode cX8_judge 192 = .ok (.getfield 44, 3) := by decide +kernel
theorem dX8_judge_195 : decode cX8_judge 195 = .ok (.aload_n 0, 1) := by decide +kernel
theorem dX8_judge_196 : decode cX8_judge 196 = .ok (.getfield 97, 3) := by decide +kernel
theorem dX8_judge_199 : decode cX8_judge 199 = .ok (.iaload, 1) := by decide +kernel
theorem dX8_judge_200 : decode cX8_judge 200 = .ok (.iastore, 1) := by decide +kernel
theorem dX8_judge_201 : decode cX8_judge 201 = .ok (.iload_n 1, 1) := by decide +kernel
theorem dX8_judge_202 : decode cX8_judge 202 = .ok (.aload_n 0, 1) := by decide +kernel
theorem dX8_judge_203 : decode cX8_judge 203 = .ok (.getfield 41, 3) := by decide +kernel
theorem dX8_judge_206 : decode cX8_judge 206 = .ok (.aload_n 0, 1) := by decide +kernel
theorem dX8_judge_207 : decode cX8_judge 207 = .ok (.getfield 97, 3) := by decide +kernel
theorem dX8_judge_210 : decode cX8_judge 210 = .ok (.baload, 1) := by decide +kernel
theorem dX8_judge_211 : decode cX8_judge 211 = .ok (.ifCond .eq 7, 3) := by decide +kernel
theorem dX8_judge_214 : decode cX8_judge 214 = .ok (.iconst 0, 1) := by decide +kernel
theorem dX8_judge_215 : decode cX8_judge 215 = .ok (.goto 4, 3) := by decide +kernel
theorem dX8_judge_218 : decode cX8_judge 218 = .ok (.iconst 1, 1) := by decide +kernel
theorem dX8_judge_219 : decode cX8_judge 219 = .ok (.iadd, 1) := by decide +kernel
theorem dX8_judge_220 : decode cX8_judge 220 = .ok (.istore_n 1, 1) := by decide +kernel
theorem dX8_judge_221 : decode cX8_judge 221 = .ok (.aload_n 0, 1) := by decide +kernel
theorem dX8_judge_222 : decode cX8_judge 222 = .ok (.dup, 1) := by decide +kernel
theorem dX8_judge_223 : decode cX8_judge 223 = .ok (.getfield 97, 3) := by decide +kernel
theorem dX8_judge_226 : decode cX8_judge 226 = .ok (.iconst 1, 1) := by decide +kernel
theorem dX8_judge_227 : decode cX8_judge 227 = .ok (.iadd, 1) := by decide +kernel
theorem dX8_judge_228 : decode cX8_judge 228 = .ok (.putfield 97, 3) := by decide +kernel
theorem dX8_judge_231 : decode cX8_judge 231 = .ok (.goto (-201), 3) := by decide +kernel
theorem dX8_judge_234 : decode cX8_judge 234 = .ok (.aload_n 0, 1) := by decide +kernel
theorem dX8_judge_235 : decode cX8_judge 235 = .ok (.iconst 1, 1) := by decide +kernel
theorem dX8_judge_236 : decode cX8_judge 236 = .ok (.putfield 85, 3) := by decide +kernel
theorem dX8_judge_239 : decode cX8_judge 239 = .ok (.aload_n 0, 1) := by decide +kernel
theorem dX8_judge_240 : decode cX8_judge 240 = .ok (.iconst 0, 1) := by decide +kernel
theorem dX8_judge_241 : decode cX8_judge 241 = .ok (.putfield 128, 3) := by decide +kernel
theorem dX8_judge_244 : decode cX8_judge 244 = .ok (.iload_n 1, 1) := by decide +kernel
theorem dX8_judge_245 : decode cX8_judge 245 = .ok (.ireturn, 1) := by decide +kernel
theorem dX8_work_0 : decode cX8_work 0 = .ok (.iload_n 1, 1) := by decide +kernel
theorem dX8_work_1 : decode cX8_work 1 = .ok (.tableswitch 93 0 8 #[51, 93, 93, 93, 58, 65, 72, 79, 86], 51) := by decide +kernel
theorem dX8_work_52 : decode cX8_work 52 = .ok (.aload_n 0, 1) := by decide +kernel
theorem dX8_work_53 : decode cX8_work 53 = .ok (.invokevirtual 131, 3) := by decide +kernel
theorem dX8_work_56 : decode cX8_work 56 = .ok (.goto 42, 3) := by decide +kernel
theorem dX8_work_59 : decode cX8_work 59 = .ok (.aload_n 0, 1) := by decide +kernel
theorem dX8_work_60 : decode cX8_work 60 = .ok (.invokevirtual 134, 3) := by decide +kernel
theorem dX8_work_63 : decode cX8_work 63 = .ok (.goto 35, 3) := by decide +kernel
theorem dX8_work_66 : decode cX8_work 66 = .ok (.aload_n 0, 1) := by decide +kernel
theorem dX8_work_67 : decode cX8_work 67 = .ok (.invokevirtual 137, 3) := by decide +kernel
theorem dX8_work_70 : decode cX8_work 70 = .ok (.goto 28, 3) := by decide +kernel
theorem dX8_work_73 : decode cX8_work 73 = .ok (.aload_n 0, 1) := by decide +kernel
theorem dX8_work_74 : decode cX8_work 74 = .ok (.invokevirtual 140, 3) := by decide +kernel
theorem dX8_work_77 : decode cX8_work 77 = .ok (.goto 21, 3) := by decide +kernel
theorem dX8_work_80 : decode cX8_work 80 = .ok (.aload_n 0, 1) := by decide +kernel
theorem dX8_work_81 : decode cX8_work 81 = .ok (.invokevirtual 143, 3) := by decide +kernel
theorem dX8_work_84 : decode cX8_work 84 = .ok (.goto 14, 3) := by decide +kernel
theorem dX8_work_87 : decode cX8_work 87 = .ok (.aload_n 0, 1) := by decide +kernel
theorem dX8_work_88 : decode cX8_work 88 = .ok (.invokevirtual 146, 3) := by decide +kernel
theorem dX8_work_91 : decode cX8_work 91 = .ok (.goto 7, 3) := by decide +kernel
theorem dX8_work_94 : decode cX8_work 94 = .ok (.aload_n 0, 1) := by decide +kernel
theorem dX8_work_95 : decode cX8_work 95 = .ok (.invokevirtual 149, 3) := by decide +kernel
theorem dX8_work_98 : decode cX8_work 98 = .ok (.return_, 1) := by decide +kernel
theorem dX8_rows_0 : decode cX8_rows 0 = .ok (.aload_n 0, 1) := by decide +kernel
theorem dX8_rows_1 : decode cX8_rows 1 = .ok (.iload_n 1, 1) := by decide +kernel
theorem dX8_rows_2 : decode cX8_rows 2 = .ok (.invokevirtual 93, 3) := by decide +kernel
theorem dX8_rows_5 : decode cX8_rows 5 = .ok (.ifCond .ne 7, 3) := by decide +kernel
theorem dX8_rows_8 : decode cX8_rows 8 = .ok (.iconst (-1), 1) := by decide +kernel
theorem dX8_rows_9 : decode cX8_rows 9 = .ok (.goto 35, 3) := by decide +kernel
theorem dX8_rows_12 : decode cX8_rows 12 = .ok (.aload_n 0, 1) := by decide +kernel
theorem dX8_rows_13 : decode cX8_rows 13 = .ok (.getfield 85, 3) := by decide +kernel
theorem dX8_rows_16 : decode cX8_rows 16 = .ok (.ifCond .ne 8, 3) := by decide +kernel
theorem dX8_rows_19 : decode cX8_rows 19 = .ok (.bipush (-3), 2) := by decide +kernel
theorem dX8_rows_21 : decode cX8_rows 21 = .ok (.goto 23, 3) := by decide +kernel
theorem dX8_rows_24 : decode cX8_rows 24 = .ok (.aload_n 0, 1) := by decide +kernel
theorem dX8_rows_25 : decode cX8_rows 25 = .ok (.getfield 41, 3) := by decide +kernel
theorem dX8_rows_28 : decode cX8_rows 28 = .ok (.iload_n 1, 1) := by decide +kernel
theorem dX8_rows_29 : decode cX8_rows 29 = .ok (.baload, 1) := by decide +kernel
theorem dX8_rows_30 : decode cX8_rows 30 = .ok (.ifCond .eq 8, 3) := by decide +kernel
theorem dX8_rows_33 : decode cX8_rows 33 = .ok (.bipush (-6), 2) := by decide +kernel
theorem dX8_rows_35 : decode cX8_rows 35 = .ok (.goto 9, 3) := by decide +kernel
theorem dX8_rows_38 : decode cX8_rows 38 = .ok (.aload_n 0, 1) := by decide +kernel
theorem dX8_rows_39 : decode cX8_rows 39 = .ok (.getfield 44, 3) := by decide +kernel
theorem dX8_rows_42 : decode cX8_rows 42 = .ok (.iload_n 1, 1) := by decide +kernel
theorem dX8_rows_43 : decode cX8_rows 43 = .ok (.iaload, 1) := by decide +kernel
theorem dX8_rows_44 : decode cX8_rows 44 = .ok (.ireturn, 1) := by decide +kernel
theorem dX8_told_0 : decode cX8_told 0 = .ok (.aload_n 0, 1) := by decide +kernel
theorem dX8_told_1 : decode cX8_told 1 = .ok (.iload_n 1, 1) := by decide +kernel
theorem dX8_told_2 : decode cX8_told 2 = .ok (.invokevirtual 93, 3) := by decide +kernel
theorem dX8_told_5 : decode cX8_told 5 = .ok (.ifCond .eq 12, 3) := by decide +kernel
theorem dX8_told_8 : decode cX8_told 8 = .ok (.iload_n 3, 1) := by decide +kernel
theorem dX8_told_9 : decode cX8_told 9 = .ok (.iconst 0, 1) := by decide +kernel
theorem dX8_told_10 : decode cX8_told 10 = .ok (.iconst 1, 1) := by decide +kernel
theorem dX8_told_11 : decode cX8_told 11 = .ok (.invokestatic 76, 3) := by decide +kernel
theorem dX8_told_14 : decode cX8_told 14 = .ok (.ifCond .ne 5, 3) := by decide +kernel
theorem dX8_told_17 : decode cX8_told 17 = .ok (.iconst (-1), 1) := by decide +kernel
theorem dX8_told_18 : decode cX8_told 18 = .ok (.ireturn, 1) := by decide +kernel
theorem dX8_told_19 : decode cX8_told 19 = .ok (.aload_n 0, 1) := by decide +kernel
theorem dX8_told_20 : decode cX8_told 20 = .ok (.getfield 85, 3) := by decide +kernel
theorem dX8_told_23 : decode cX8_told 23 = .ok (.ifCond .ne 6, 3) := by decide +kernel
theorem dX8_told_26 : decode cX8_told 26 = .ok (.bipush (-3), 2) := by decide +kernel
theorem dX8_told_28 : decode cX8_told 28 = .ok (.ireturn, 1) := by decide +kernel
theorem dX8_told_29 : decode cX8_told 29 = .ok (.aload_n 0, 1) := by decide +kernel
theorem dX8_told_30 : decode cX8_told 30 = .ok (.getfield 41, 3) := by decide +kernel
theorem dX8_told_33 : decode cX8_told 33 = .ok (.iload_n 1, 1) := by decide +kernel
theorem dX8_told_34 : decode cX8_told 34 = .ok (.baload, 1) := by decide +kernel
theorem dX8_told_35 : decode cX8_told 35 = .ok (.ifCond .eq 8, 3) := by decide +kernel
theorem dX8_told_38 : decode cX8_told 38 = .ok (.bipush (-6), 2) := by decide +kernel
theorem dX8_told_40 : decode cX8_told 40 = .ok (.goto 55, 3) := by decide +kernel
theorem dX8_told_43 : decode cX8_told 43 = .ok (.iload_n 2, 1) := by decide +kernel
theorem dX8_told_44 : decode cX8_told 44 = .ok (.iconst 0, 1) := by decide +kernel
theorem dX8_told_45 : decode cX8_told 45 = .ok (.aload_n 0, 1) := by decide +kernel
theorem dX8_told_46 : decode cX8_told 46 = .ok (.getfield 44, 3) := by decide +kernel
theorem dX8_told_49 : decode cX8_told 49 = .ok (.iload_n 1, 1) := by decide +kernel
theorem dX8_told_50 : decode cX8_told 50 = .ok (.iaload, 1) := by decide +kernel
theorem dX8_told_51 : decode cX8_told 51 = .ok (.iconst 1, 1) := by decide +kernel
theorem dX8_told_52 : decode cX8_told 52 = .ok (.isub, 1) := by decide +kernel
theorem dX8_told_53 : decode cX8_told 53 = .ok (.invokestatic 76, 3) := by decide +kernel
theorem dX8_told_56 : decode cX8_told 56 = .ok (.ifCond .ne 8, 3) := by decide +kernel
theorem dX8_told_59 : decode cX8_told 59 = .ok (.bipush (-4), 2) := by decide +kernel
theorem dX8_told_61 : decode cX8_told 61 = .ok (.goto 34, 3) := by decide +kernel
theorem dX8_told_64 : decode cX8_told 64 = .ok (.iload_n 3, 1) := by decide +kernel
theorem dX8_told_65 : decode cX8_told 65 = .ok (.ifCond .ne 18, 3) := by decide +kernel
theorem dX8_told_68 : decode cX8_told 68 = .ok (.aload_n 0, 1) := by decide +kernel
theorem dX8_told_69 : decode cX8_told 69 = .ok (.getfield 50, 3) := by decide +kernel
theorem dX8_told_72 : decode cX8_told 72 = .ok (.sipush 201, 3) := by decide +kernel
theorem dX8_told_75 : decode cX8_told 75 = .ok (.iload_n 1, 1) := by decide +kernel
theorem dX8_told_76 : decode cX8_told 76 = .ok (.imul, 1) := by decide +kernel
theorem dX8_told_77 : decode cX8_told 77 = .ok (.iload_n 2, 1) := by decide +kernel
theorem dX8_told_78 : decode cX8_told 78 = .ok (.iadd, 1) := by decide +kernel
theorem dX8_told_79 : decode cX8_told 79 = .ok (.iaload, 1) := by decide +kernel
theorem dX8_told_80 : decode cX8_told 80 = .ok (.goto 15, 3) := by decide +kernel
theorem dX8_told_83 : decode cX8_told 83 = .ok (.aload_n 0, 1) := by decide +kernel
theorem dX8_told_84 : decode cX8_told 84 = .ok (.getfield 53, 3) := by decide +kernel
theorem dX8_told_87 : decode cX8_told 87 = .ok (.sipush 201, 3) := by decide +kernel
theorem dX8_told_90 : decode cX8_told 90 = .ok (.iload_n 1, 1) := by decide +kernel
theorem dX8_told_91 : decode cX8_told 91 = .ok (.imul, 1) := by decide +kernel
theorem dX8_told_92 : decode cX8_told 92 = .ok (.iload_n 2, 1) := by decide +kernel
theorem dX8_told_93 : decode cX8_told 93 = .ok (.iadd, 1) := by decide +kernel
theorem dX8_told_94 : decode cX8_told 94 = .ok (.iaload, 1) := by decide +kernel
theorem dX8_told_95 : decode cX8_told 95 = .ok (.ireturn, 1) := by decide +kernel
theorem dX8_value_0 : decode cX8_value 0 = .ok (.aload_n 0, 1) := by decide +kernel
theorem dX8_value_1 : decode cX8_value 1 = .ok (.iload_n 1, 1) := by decide +kernel
theorem dX8_value_2 : decode cX8_value 2 = .ok (.invokevirtual 93, 3) := by decide +kernel
theorem dX8_value_5 : decode cX8_value 5 = .ok (.ifCond .eq 50, 3) := by decide +kernel
theorem dX8_value_8 : decode cX8_value 8 = .ok (.aload_n 0, 1) := by decide +kernel
theorem dX8_value_9 : decode cX8_value 9 = .ok (.getfield 85, 3) := by decide +kernel
theorem dX8_value_12 : decode cX8_value 12 = .ok (.ifCond .eq 43, 3) := by decide +kernel
theorem dX8_value_15 : decode cX8_value 15 = .ok (.aload_n 0, 1) := by decide +kernel
theorem dX8_value_16 : decode cX8_value 16 = .ok (.getfield 41, 3) := by decide +kernel
theorem dX8_value_19 : decode cX8_value 19 = .ok (.iload_n 1, 1) := by decide +kernel
theorem dX8_value_20 : decode cX8_value 20 = .ok (.baload, 1) := by decide +kernel
theorem dX8_value_21 : decode cX8_value 21 = .ok (.ifCond .ne 34, 3) := by decide +kernel
theorem dX8_value_24 : decode cX8_value 24 = .ok (.iload_n 2, 1) := by decide +kernel
theorem dX8_value_25 : decode cX8_value 25 = .ok (.iconst 0, 1) := by decide +kernel
theorem dX8_value_26 : decode cX8_value 26 = .ok (.aload_n 0, 1) := by decide +kernel
theorem dX8_value_27 : decode cX8_value 27 = .ok (.getfield 44, 3) := by decide +kernel
theorem dX8_value_30 : decode cX8_value 30 = .ok (.iload_n 1, 1) := by decide +kernel
theorem dX8_value_31 : decode cX8_value 31 = .ok (.iaload, 1) := by decide +kernel
theorem dX8_value_32 : decode cX8_value 32 = .ok (.iconst 1, 1) := by decide +kernel
theorem dX8_value_33 : decode cX8_value 33 = .ok (.isub, 1) := by decide +kernel
theorem dX8_value_34 : decode cX8_value 34 = .ok (.invokestatic 76, 3) := by decide +kernel
theorem dX8_value_37 : decode cX8_value 37 = .ok (.ifCond .eq 18, 3) := by decide +kernel
theorem dX8_value_40 : decode cX8_value 40 = .ok (.aload_n 0, 1) := by decide +kernel
theorem dX8_value_41 : decode cX8_value 41 = .ok (.getfield 56, 3) := by decide +kernel
theorem dX8_value_44 : decode cX8_value 44 = .ok (.sipush 201, 3) := by decide +kernel
theorem dX8_value_47 : decode cX8_value 47 = .ok (.iload_n 1, 1) := by decide +kernel
theorem dX8_value_48 : decode cX8_value 48 = .ok (.imul, 1) := by decide +kernel
theorem dX8_value_49 : decode cX8_value 49 = .ok (.iload_n 2, 1) := by decide +kernel
theorem dX8_value_50 : decode cX8_value 50 = .ok (.iadd, 1) := by decide +kernel
theorem dX8_value_51 : decode cX8_value 51 = .ok (.laload, 1) := by decide +kernel
theorem dX8_value_52 : decode cX8_value 52 = .ok (.goto 4, 3) := by decide +kernel
theorem dX8_value_55 : decode cX8_value 55 = .ok (.lconst 0, 1) := by decide +kernel
theorem dX8_value_56 : decode cX8_value 56 = .ok (.lreturn, 1) := by decide +kernel
theorem dX8_fails_0 : decode cX8_fails 0 = .ok (.aload_n 0, 1) := by decide +kernel
theorem dX8_fails_1 : decode cX8_fails 1 = .ok (.iload_n 1, 1) := by decide +kernel
theorem dX8_fails_2 : decode cX8_fails 2 = .ok (.invokevirtual 93, 3) := by decide +kernel
theorem dX8_fails_5 : decode cX8_fails 5 = .ok (.ifCond .eq 12, 3) := by decide +kernel
theorem dX8_fails_8 : decode cX8_fails 8 = .ok (.iload_n 2, 1) := by decide +kernel
theorem dX8_fails_9 : decode cX8_fails 9 = .ok (.iconst 0, 1) := by decide +kernel
theorem dX8_fails_10 : decode cX8_fails 10 = .ok (.iconst 1, 1) := by decide +kernel
theorem dX8_fails_11 : decode cX8_fails 11 = .ok (.invokestatic 76, 3) := by decide +kernel
theorem dX8_fails_14 : decode cX8_fails 14 = .ok (.ifCond .ne 7, 3) := by decide +kernel
theorem dX8_fails_17 : decode cX8_fails 17 = .ok (.iconst (-1), 1) := by decide +kernel
theorem dX8_fails_18 : decode cX8_fails 18 = .ok (.goto 25, 3) := by decide +kernel
theorem dX8_fails_21 : decode cX8_fails 21 = .ok (.aload_n 0, 1) := by decide +kernel
theorem dX8_fails_22 : decode cX8_fails 22 = .ok (.getfield 85, 3) := by decide +kernel
theorem dX8_fails_25 : decode cX8_fails 25 = .ok (.ifCond .ne 8, 3) := by decide +kernel
theorem dX8_fails_28 : decode cX8_fails 28 = .ok (.bipush (-3), 2) := by decide +kernel
theorem dX8_fails_30 : decode cX8_fails 30 = .ok (.goto 13, 3) := by decide +kernel
theorem dX8_fails_33 : decode cX8_fails 33 = .ok (.aload_n 0, 1) := by decide +kernel
theorem dX8_fails_34 : decode cX8_fails 34 = .ok (.getfield 47, 3) := by decide +kernel
theorem dX8_fails_37 : decode cX8_fails 37 = .ok (.iconst 2, 1) := by decide +kernel
theorem dX8_fails_38 : decode cX8_fails 38 = .ok (.iload_n 1, 1) := by decide +kernel
theorem dX8_fails_39 : decode cX8_fails 39 = .ok (.imul, 1) := by decide +kernel
theorem dX8_fails_40 : decode cX8_fails 40 = .ok (.iload_n 2, 1) := by decide +kernel
theorem dX8_fails_41 : decode cX8_fails 41 = .ok (.iadd, 1) := by decide +kernel
theorem dX8_fails_42 : decode cX8_fails 42 = .ok (.iaload, 1) := by decide +kernel
theorem dX8_fails_43 : decode cX8_fails 43 = .ok (.ireturn, 1) := by decide +kernel
theorem dX8_tell_0 : decode cX8_tell 0 = .ok (.aload_n 0, 1) := by decide +kernel
theorem dX8_tell_1 : decode cX8_tell 1 = .ok (.iload_n 1, 1) := by decide +kernel
theorem dX8_tell_2 : decode cX8_tell 2 = .ok (.invokevirtual 93, 3) := by decide +kernel
theorem dX8_tell_5 : decode cX8_tell 5 = .ok (.ifCond .eq 23, 3) := by decide +kernel
theorem dX8_tell_8 : decode cX8_tell 8 = .ok (.iload_n 2, 1) := by decide +kernel
theorem dX8_tell_9 : decode cX8_tell 9 = .ok (.iconst 0, 1) := by decide +kernel
theorem dX8_tell_10 : decode cX8_tell 10 = .ok (.sipush 20000, 3) := by decide +kernel
theorem dX8_tell_13 : decode cX8_tell 13 = .ok (.invokestatic 76, 3) := by decide +kernel
theorem dX8_tell_16 : decode cX8_tell 16 = .ok (.ifCond .eq 12, 3) := by decide +kernel
theorem dX8_tell_19 : decode cX8_tell 19 = .ok (.iload_n 3, 1) := by decide +kernel
theorem dX8_tell_20 : decode cX8_tell 20 = .ok (.iconst 0, 1) := by decide +kernel
theorem dX8_tell_21 : decode cX8_tell 21 = .ok (.iconst 5, 1) := by decide +kernel
theorem dX8_tell_22 : decode cX8_tell 22 = .ok (.invokestatic 76, 3) := by decide +kernel
theorem dX8_tell_25 : decode cX8_tell 25 = .ok (.ifCond .ne 5, 3) := by decide +kernel
theorem dX8_tell_28 : decode cX8_tell 28 = .ok (.iconst (-1), 1) := by decide +kernel
theorem dX8_tell_29 : decode cX8_tell 29 = .ok (.ireturn, 1) := by decide +kernel
theorem dX8_tell_30 : decode cX8_tell 30 = .ok (.aload_n 0, 1) := by decide +kernel
theorem dX8_tell_31 : decode cX8_tell 31 = .ok (.getfield 60, 3) := by decide +kernel
theorem dX8_tell_34 : decode cX8_tell 34 = .ok (.iload_n 1, 1) := by decide +kernel
theorem dX8_tell_35 : decode cX8_tell 35 = .ok (.iaload, 1) := by decide +kernel
theorem dX8_tell_36 : decode cX8_tell 36 = .ok (.bipush 40, 2) := by decide +kernel
theorem dX8_tell_38 : decode cX8_tell 38 = .ok (.if_icmp .ne 6, 3) := by decide +kernel
theorem dX8_tell_41 : decode cX8_tell 41 = .ok (.bipush (-2), 2) := by decide +kernel
theorem dX8_tell_43 : decode cX8_tell 43 = .ok (.ireturn, 1) := by decide +kernel
theorem dX8_tell_44 : decode cX8_tell 44 = .ok (.bipush 40, 2) := by decide +kernel
theorem dX8_tell_46 : decode cX8_tell 46 = .ok (.iload_n 1, 1) := by decide +kernel
theorem dX8_tell_47 : decode cX8_tell 47 = .ok (.imul, 1) := by decide +kernel
theorem dX8_tell_48 : decode cX8_tell 48 = .ok (.aload_n 0, 1) := by decide +kernel
theorem dX8_tell_49 : decode cX8_tell 49 = .ok (.getfield 60, 3) := by decide +kernel
theorem dX8_tell_52 : decode cX8_tell 52 = .ok (.iload_n 1, 1) := by decide +kernel
theorem dX8_tell_53 : decode cX8_tell 53 = .ok (.iaload, 1) := by decide +kernel
theorem dX8_tell_54 : decode cX8_tell 54 = .ok (.iadd, 1) := by decide +kernel
theorem dX8_tell_55 : decode cX8_tell 55 = .ok (.istore 6, 2) := by decide +kernel
theorem dX8_tell_57 : decode cX8_tell 57 = .ok (.aload_n 0, 1) := by decide +kernel
theorem dX8_tell_58 : decode cX8_tell 58 = .ok (.getfield 63, 3) := by decide +kernel
theorem dX8_tell_61 : decode cX8_tell 61 = .ok (.iload 6, 2) := by decide +kernel
theorem dX8_tell_63 : decode cX8_tell 63 = .ok (.iload_n 2, 1) := by decide +kernel
theorem dX8_tell_64 : decode cX8_tell 64 = .ok (.iastore, 1) := by decide +kernel
theorem dX8_tell_65 : decode cX8_tell 65 = .ok (.aload_n 0, 1) := by decide +kernel
theorem dX8_tell_66 : decode cX8_tell 66 = .ok (.getfield 66, 3) := by decide +kernel
theorem dX8_tell_69 : decode cX8_tell 69 = .ok (.iload 6, 2) := by decide +kernel
theorem dX8_tell_71 : decode cX8_tell 71 = .ok (.iload_n 3, 1) := by decide +kernel
theorem dX8_tell_72 : decode cX8_tell 72 = .ok (.iastore, 1) := by decide +kernel
theorem dX8_tell_73 : decode cX8_tell 73 = .ok (.aload_n 0, 1) := by decide +kernel
theorem dX8_tell_74 : decode cX8_tell 74 = .ok (.getfield 69, 3) := by decide +kernel
theorem dX8_tell_77 : decode cX8_tell 77 = .ok (.iload 6, 2) := by decide +kernel
theorem dX8_tell_79 : decode cX8_tell 79 = .ok (.lload 4, 2) := by decide +kernel
theorem dX8_tell_81 : decode cX8_tell 81 = .ok (.lastore, 1) := by decide +kernel
theorem dX8_tell_82 : decode cX8_tell 82 = .ok (.aload_n 0, 1) := by decide +kernel
theorem dX8_tell_83 : decode cX8_tell 83 = .ok (.getfield 60, 3) := by decide +kernel
theorem dX8_tell_86 : decode cX8_tell 86 = .ok (.iload_n 1, 1) := by decide +kernel
theorem dX8_tell_87 : decode cX8_tell 87 = .ok (.dup2, 1) := by decide +kernel
theorem dX8_tell_88 : decode cX8_tell 88 = .ok (.iaload, 1) := by decide +kernel
theorem dX8_tell_89 : decode cX8_tell 89 = .ok (.iconst 1, 1) := by decide +kernel
theorem dX8_tell_90 : decode cX8_tell 90 = .ok (.iadd, 1) := by decide +kernel
theorem dX8_tell_91 : decode cX8_tell 91 = .ok (.iastore, 1) := by decide +kernel
theorem dX8_tell_92 : decode cX8_tell 92 = .ok (.aload_n 0, 1) := by decide +kernel
theorem dX8_tell_93 : decode cX8_tell 93 = .ok (.getfield 60, 3) := by decide +kernel
theorem dX8_tell_96 : decode cX8_tell 96 = .ok (.iload_n 1, 1) := by decide +kernel
theorem dX8_tell_97 : decode cX8_tell 97 = .ok (.iaload, 1) := by decide +kernel
theorem dX8_tell_98 : decode cX8_tell 98 = .ok (.ireturn, 1) := by decide +kernel
theorem dX8_untell_0 : decode cX8_untell 0 = .ok (.aload_n 0, 1) := by decide +kernel
theorem dX8_untell_1 : decode cX8_untell 1 = .ok (.iload_n 1, 1) := by decide +kernel
theorem dX8_untell_2 : decode cX8_untell 2 = .ok (.invokevirtual 93, 3) := by decide +kernel
theorem dX8_untell_5 : decode cX8_untell 5 = .ok (.ifCond .ne 5, 3) := by decide +kernel
theorem dX8_untell_8 : decode cX8_untell 8 = .ok (.iconst (-1), 1) := by decide +kernel
theorem dX8_untell_9 : decode cX8_untell 9 = .ok (.ireturn, 1) := by decide +kernel
theorem dX8_untell_10 : decode cX8_untell 10 = .ok (.aload_n 0, 1) := by decide +kernel
theorem dX8_untell_11 : decode cX8_untell 11 = .ok (.getfield 60, 3) := by decide +kernel
theorem dX8_untell_14 : decode cX8_untell 14 = .ok (.iload_n 1, 1) := by decide +kernel
theorem dX8_untell_15 : decode cX8_untell 15 = .ok (.iaload, 1) := by decide +kernel
theorem dX8_untell_16 : decode cX8_untell 16 = .ok (.istore_n 2, 1) := by decide +kernel
theorem dX8_untell_17 : decode cX8_untell 17 = .ok (.aload_n 0, 1) := by decide +kernel
theorem dX8_untell_18 : decode cX8_untell 18 = .ok (.getfield 60, 3) := by decide +kernel
theorem dX8_untell_21 : decode cX8_untell 21 = .ok (.iload_n 1, 1) := by decide +kernel
theorem dX8_untell_22 : decode cX8_untell 22 = .ok (.iconst 0, 1) := by decide +kernel
theorem dX8_untell_23 : decode cX8_untell 23 = .ok (.iastore, 1) := by decide +kernel
theorem dX8_untell_24 : decode cX8_untell 24 = .ok (.iload_n 2, 1) := by decide +kernel
theorem dX8_untell_25 : decode cX8_untell 25 = .ok (.ireturn, 1) := by decide +kernel
theorem dX8_other_0 : decode cX8_other 0 = .ok (.aload_n 0, 1) := by decide +kernel
theorem dX8_other_1 : decode cX8_other 1 = .ok (.iconst 1, 1) := by decide +kernel
theorem dX8_other_2 : decode cX8_other 2 = .ok (.putfield 128, 3) := by decide +kernel
theorem dX8_other_5 : decode cX8_other 5 = .ok (.aload_n 0, 1) := by decide +kernel
theorem dX8_other_6 : decode cX8_other 6 = .ok (.iload_n 2, 1) := by decide +kernel
theorem dX8_other_7 : decode cX8_other 7 = .ok (.putfield 152, 3) := by decide +kernel
theorem dX8_other_10 : decode cX8_other 10 = .ok (.aload_n 0, 1) := by decide +kernel
theorem dX8_other_11 : decode cX8_other 11 = .ok (.iload_n 3, 1) := by decide +kernel
theorem dX8_other_12 : decode cX8_other 12 = .ok (.putfield 155, 3) := by decide +kernel
theorem dX8_other_15 : decode cX8_other 15 = .ok (.aload_n 0, 1) := by decide +kernel
theorem dX8_other_16 : decode cX8_other 16 = .ok (.iload 4, 2) := by decide +kernel
theorem dX8_other_18 : decode cX8_other 18 = .ok (.putfield 158, 3) := by decide +kernel
theorem dX8_other_21 : decode cX8_other 21 = .ok (.iload_n 1, 1) := by decide +kernel
theorem dX8_other_22 : decode cX8_other 22 = .ok (.ireturn, 1) := by decide +kernel
theorem dX8_byOrder_0 : decode cX8_byOrder 0 = .ok (.sipush 201, 3) := by decide +kernel
theorem dX8_byOrder_3 : decode cX8_byOrder 3 = .ok (.iload_n 1, 1) := by decide +kernel
theorem dX8_byOrder_4 : decode cX8_byOrder 4 = .ok (.imul, 1) := by decide +kernel
theorem dX8_byOrder_5 : decode cX8_byOrder 5 = .ok (.istore_n 2, 1) := by decide +kernel
theorem dX8_byOrder_6 : decode cX8_byOrder 6 = .ok (.bipush 40, 2) := by decide +kernel
theorem dX8_byOrder_8 : decode cX8_byOrder 8 = .ok (.iload_n 1, 1) := by decide +kernel
theorem dX8_byOrder_9 : decode cX8_byOrder 9 = .ok (.imul, 1) := by decide +kernel
theorem dX8_byOrder_10 : decode cX8_byOrder 10 = .ok (.istore_n 3, 1) := by decide +kernel
theorem dX8_byOrder_11 : decode cX8_byOrder 11 = .ok (.iconst 0, 1) := by decide +kernel
theorem dX8_byOrder_12 : decode cX8_byOrder 12 = .ok (.istore 4, 2) := by decide +kernel
theorem dX8_byOrder_14 : decode cX8_byOrder 14 = .ok (.iload 4, 2) := by decide +kernel
theorem dX8_byOrder_16 : decode cX8_byOrder 16 = .ok (.aload_n 0, 1) := by decide +kernel
theorem dX8_byOrder_17 : decode cX8_byOrder 17 = .ok (.getfield 44, 3) := by decide +kernel
theorem dX8_byOrder_20 : decode cX8_byOrder 20 = .ok (.iload_n 1, 1) := by decide +kernel
theorem dX8_byOrder_21 : decode cX8_byOrder 21 = .ok (.iaload, 1) := by decide +kernel
theorem dX8_byOrder_22 : decode cX8_byOrder 22 = .ok (.if_icmp .lt 14, 3) := by decide +kernel
theorem dX8_byOrder_25 : decode cX8_byOrder 25 = .ok (.iload 4, 2) := by decide +kernel
theorem dX8_byOrder_27 : decode cX8_byOrder 27 = .ok (.aload_n 0, 1) := by decide +kernel
theorem dX8_byOrder_28 : decode cX8_byOrder 28 = .ok (.getfield 60, 3) := by decide +kernel
theorem dX8_byOrder_31 : decode cX8_byOrder 31 = .ok (.iload_n 1, 1) := by decide +kernel
theorem dX8_byOrder_32 : decode cX8_byOrder 32 = .ok (.iaload, 1) := by decide +kernel
theorem dX8_byOrder_33 : decode cX8_byOrder 33 = .ok (.if_icmp .ge 173, 3) := by decide +kernel
theorem dX8_byOrder_36 : decode cX8_byOrder 36 = .ok (.iload 4, 2) := by decide +kernel
theorem dX8_byOrder_38 : decode cX8_byOrder 38 = .ok (.aload_n 0, 1) := by decide +kernel
theorem dX8_byOrder_39 : decode cX8_byOrder 39 = .ok (.getfield 60, 3) := by decide +kernel
theorem dX8_byOrder_42 : decode cX8_byOrder 42 = .ok (.iload_n 1, 1) := by decide +kernel
theorem dX8_byOrder_43 : decode cX8_byOrder 43 = .ok (.iaload, 1) := by decide +kernel
theorem dX8_byOrder_44 : decode cX8_byOrder 44 = .ok (.if_icmp .lt 29, 3) := by decide +kernel
theorem dX8_byOrder_47 : decode cX8_byOrder 47 = .ok (.aload_n 0, 1) := by decide +kernel
theorem dX8_byOrder_48 : decode cX8_byOrder 48 = .ok (.iconst 1, 1) := by decide +kernel
theorem dX8_byOrder_49 : decode cX8_byOrder 49 = .ok (.iload 4, 2) := by decide +kernel
theorem dX8_byOrder_51 : decode cX8_byOrder 51 = .ok (.aload_n 0, 1) := by decide +kernel
theorem dX8_byOrder_52 : decode cX8_byOrder 52 = .ok (.getfield 50, 3) := by decide +kernel
theorem dX8_byOrder_55 : decode cX8_byOrder 55 = .ok (.iload_n 2, 1) := by decide +kernel
theorem dX8_byOrder_56 : decode cX8_byOrder 56 = .ok (.iload 4, 2) := by decide +kernel
theorem dX8_byOrder_58 : decode cX8_byOrder 58 = .ok (.iadd, 1) := by decide +kernel
theorem dX8_byOrder_59 : decode cX8_byOrder 59 = .ok (.iaload, 1) := by decide +kernel
theorem dX8_byOrder_60 : decode cX8_byOrder 60 = .ok (.aload_n 0, 1) := by decide +kernel
theorem dX8_byOrder_61 : decode cX8_byOrder 61 = .ok (.getfield 53, 3) := by decide +kernel
theorem dX8_byOrder_64 : decode cX8_byOrder 64 = .ok (.iload_n 2, 1) := by decide +kernel
theorem dX8_byOrder_65 : decode cX8_byOrder 65 = .ok (.iload 4, 2) := by decide +kernel
theorem dX8_byOrder_67 : decode cX8_byOrder 67 = .ok (.iadd, 1) := by decide +kernel
theorem dX8_byOrder_68 : decode cX8_byOrder 68 = .ok (.iaload, 1) := by decide +kernel
theorem dX8_byOrder_69 : decode cX8_byOrder 69 = .ok (.invokevirtual 161, 3) := by decide +kernel
theorem dX8_byOrder_72 : decode cX8_byOrder 72 = .ok (.ireturn, 1) := by decide +kernel
theorem dX8_byOrder_73 : decode cX8_byOrder 73 = .ok (.iload 4, 2) := by decide +kernel
theorem dX8_byOrder_75 : decode cX8_byOrder 75 = .ok (.aload_n 0, 1) := by decide +kernel
theorem dX8_byOrder_76 : decode cX8_byOrder 76 = .ok (.getfield 44, 3) := by decide +kernel
theorem dX8_byOrder_79 : decode cX8_byOrder 79 = .ok (.iload_n 1, 1) := by decide +kernel
theorem dX8_byOrder_80 : decode cX8_byOrder 80 = .ok (.iaload, 1) := by decide +kernel
theorem dX8_byOrder_81 : decode cX8_byOrder 81 = .ok (.if_icmp .lt 29, 3) := by decide +kernel
theorem dX8_byOrder_84 : decode cX8_byOrder 84 = .ok (.aload_n 0, 1) := by decide +kernel
theorem dX8_byOrder_85 : decode cX8_byOrder 85 = .ok (.iconst 2, 1) := by decide +kernel
theorem dX8_byOrder_86 : decode cX8_byOrder 86 = .ok (.iload 4, 2) := by decide +kernel
theorem dX8_byOrder_88 : decode cX8_byOrder 88 = .ok (.aload_n 0, 1) := by decide +kernel
theorem dX8_byOrder_89 : decode cX8_byOrder 89 = .ok (.getfield 63, 3) := by decide +kernel
theorem dX8_byOrder_92 : decode cX8_byOrder 92 = .ok (.iload_n 3, 1) := by decide +kernel
theorem dX8_byOrder_93 : decode cX8_byOrder 93 = .ok (.iload 4, 2) := by decide +kernel
theorem dX8_byOrder_95 : decode cX8_byOrder 95 = .ok (.iadd, 1) := by decide +kernel
theorem dX8_byOrder_96 : decode cX8_byOrder 96 = .ok (.iaload, 1) := by decide +kernel
theorem dX8_byOrder_97 : decode cX8_byOrder 97 = .ok (.aload_n 0, 1) := by decide +kernel
theorem dX8_byOrder_98 : decode cX8_byOrder 98 = .ok (.getfield 66, 3) := by decide +kernel
theorem dX8_byOrder_101 : decode cX8_byOrder 101 = .ok (.iload_n 3, 1) := by decide +kernel
theorem dX8_byOrder_102 : decode cX8_byOrder 102 = .ok (.iload 4, 2) := by decide +kernel
theorem dX8_byOrder_104 : decode cX8_byOrder 104 = .ok (.iadd, 1) := by decide +kernel
theorem dX8_byOrder_105 : decode cX8_byOrder 105 = .ok (.iaload, 1) := by decide +kernel
theorem dX8_byOrder_106 : decode cX8_byOrder 106 = .ok (.invokevirtual 161, 3) := by decide +kernel
theorem dX8_byOrder_109 : decode cX8_byOrder 109 = .ok (.ireturn, 1) := by decide +kernel
theorem dX8_byOrder_110 : decode cX8_byOrder 110 = .ok (.aload_n 0, 1) := by decide +kernel
theorem dX8_byOrder_111 : decode cX8_byOrder 111 = .ok (.getfield 50, 3) := by decide +kernel
theorem dX8_byOrder_114 : decode cX8_byOrder 114 = .ok (.iload_n 2, 1) := by decide +kernel
theorem dX8_byOrder_115 : decode cX8_byOrder 115 = .ok (.iload 4, 2) := by decide +kernel
theorem dX8_byOrder_117 : decode cX8_byOrder 117 = .ok (.iadd, 1) := by decide +kernel
theorem dX8_byOrder_118 : decode cX8_byOrder 118 = .ok (.iaload, 1) := by decide +kernel
theorem dX8_byOrder_119 : decode cX8_byOrder 119 = .ok (.aload_n 0, 1) := by decide +kernel
theorem dX8_byOrder_120 : decode cX8_byOrder 120 = .ok (.getfield 63, 3) := by decide +kernel
theorem dX8_byOrder_123 : decode cX8_byOrder 123 = .ok (.iload_n 3, 1) := by decide +kernel
theorem dX8_byOrder_124 : decode cX8_byOrder 124 = .ok (.iload 4, 2) := by decide +kernel
theorem dX8_byOrder_126 : decode cX8_byOrder 126 = .ok (.iadd, 1) := by decide +kernel
theorem dX8_byOrder_127 : decode cX8_byOrder 127 = .ok (.iaload, 1) := by decide +kernel
theorem dX8_byOrder_128 : decode cX8_byOrder 128 = .ok (.if_icmp .ne 46, 3) := by decide +kernel
theorem dX8_byOrder_131 : decode cX8_byOrder 131 = .ok (.aload_n 0, 1) := by decide +kernel
theorem dX8_byOrder_132 : decode cX8_byOrder 132 = .ok (.getfield 53, 3) := by decide +kernel
theorem dX8_byOrder_135 : decode cX8_byOrder 135 = .ok (.iload_n 2, 1) := by decide +kernel
theorem dX8_byOrder_136 : decode cX8_byOrder 136 = .ok (.iload 4, 2) := by decide +kernel
theorem dX8_byOrder_138 : decode cX8_byOrder 138 = .ok (.iadd, 1) := by decide +kernel
theorem dX8_byOrder_139 : decode cX8_byOrder 139 = .ok (.iaload, 1) := by decide +kernel
theorem dX8_byOrder_140 : decode cX8_byOrder 140 = .ok (.aload_n 0, 1) := by decide +kernel
theorem dX8_byOrder_141 : decode cX8_byOrder 141 = .ok (.getfield 66, 3) := by decide +kernel
theorem dX8_byOrder_144 : decode cX8_byOrder 144 = .ok (.iload_n 3, 1) := by decide +kernel
theorem dX8_byOrder_145 : decode cX8_byOrder 145 = .ok (.iload 4, 2) := by decide +kernel
theorem dX8_byOrder_147 : decode cX8_byOrder 147 = .ok (.iadd, 1) := by decide +kernel
theorem dX8_byOrder_148 : decode cX8_byOrder 148 = .ok (.iaload, 1) := by decide +kernel
theorem dX8_byOrder_149 : decode cX8_byOrder 149 = .ok (.if_icmp .ne 25, 3) := by decide +kernel
theorem dX8_byOrder_152 : decode cX8_byOrder 152 = .ok (.aload_n 0, 1) := by decide +kernel
theorem dX8_byOrder_153 : decode cX8_byOrder 153 = .ok (.getfield 56, 3) := by decide +kernel
theorem dX8_byOrder_156 : decode cX8_byOrder 156 = .ok (.iload_n 2, 1) := by decide +kernel
theorem dX8_byOrder_157 : decode cX8_byOrder 157 = .ok (.iload 4, 2) := by decide +kernel
theorem dX8_byOrder_159 : decode cX8_byOrder 159 = .ok (.iadd, 1) := by decide +kernel
theorem dX8_byOrder_160 : decode cX8_byOrder 160 = .ok (.laload, 1) := by decide +kernel
theorem dX8_byOrder_161 : decode cX8_byOrder 161 = .ok (.aload_n 0, 1) := by decide +kernel
theorem dX8_byOrder_162 : decode cX8_byOrder 162 = .ok (.getfield 69, 3) := by decide +kernel
theorem dX8_byOrder_165 : decode cX8_byOrder 165 = .ok (.iload_n 3, 1) := by decide +kernel
theorem dX8_byOrder_166 : decode cX8_byOrder 166 = .ok (.iload 4, 2) := by decide +kernel
theorem dX8_byOrder_168 : decode cX8_byOrder 168 = .ok (.iadd, 1) := by decide +kernel
theorem dX8_byOrder_169 : decode cX8_byOrder 169 = .ok (.laload, 1) := by decide +kernel
theorem dX8_byOrder_170 : decode cX8_byOrder 170 = .ok (.lcmp, 1) := by decide +kernel
theorem dX8_byOrder_171 : decode cX8_byOrder 171 = .ok (.ifCond .eq 29, 3) := by decide +kernel
theorem dX8_byOrder_174 : decode cX8_byOrder 174 = .ok (.aload_n 0, 1) := by decide +kernel
theorem dX8_byOrder_175 : decode cX8_byOrder 175 = .ok (.iconst 3, 1) := by decide +kernel
theorem dX8_byOrder_176 : decode cX8_byOrder 176 = .ok (.iload 4, 2) := by decide +kernel
theorem dX8_byOrder_178 : decode cX8_byOrder 178 = .ok (.aload_n 0, 1) := by decide +kernel
theorem dX8_byOrder_179 : decode cX8_byOrder 179 = .ok (.getfield 50, 3) := by decide +kernel
theorem dX8_byOrder_182 : decode cX8_byOrder 182 = .ok (.iload_n 2, 1) := by decide +kernel
theorem dX8_byOrder_183 : decode cX8_byOrder 183 = .ok (.iload 4, 2) := by decide +kernel
theorem dX8_byOrder_185 : decode cX8_byOrder 185 = .ok (.iadd, 1) := by decide +kernel
theorem dX8_byOrder_186 : decode cX8_byOrder 186 = .ok (.iaload, 1) := by decide +kernel
theorem dX8_byOrder_187 : decode cX8_byOrder 187 = .ok (.aload_n 0, 1) := by decide +kernel
theorem dX8_byOrder_188 : decode cX8_byOrder 188 = .ok (.getfield 53, 3) := by decide +kernel
theorem dX8_byOrder_191 : decode cX8_byOrder 191 = .ok (.iload_n 2, 1) := by decide +kernel
theorem dX8_byOrder_192 : decode cX8_byOrder 192 = .ok (.iload 4, 2) := by decide +kernel
theorem dX8_byOrder_194 : decode cX8_byOrder 194 = .ok (.iadd, 1) := by decide +kernel
theorem dX8_byOrder_195 : decode cX8_byOrder 195 = .ok (.iaload, 1) := by decide +kernel
theorem dX8_byOrder_196 : decode cX8_byOrder 196 = .ok (.invokevirtual 161, 3) := by decide +kernel
theorem dX8_byOrder_199 : decode cX8_byOrder 199 = .ok (.ireturn, 1) := by decide +kernel
theorem dX8_byOrder_200 : decode cX8_byOrder 200 = .ok (.iinc 4 1, 3) := by decide +kernel
theorem dX8_byOrder_203 : decode cX8_byOrder 203 = .ok (.goto (-189), 3) := by decide +kernel
theorem dX8_byOrder_206 : decode cX8_byOrder 206 = .ok (.iconst 0, 1) := by decide +kernel
theorem dX8_byOrder_207 : decode cX8_byOrder 207 = .ok (.ireturn, 1) := by decide +kernel
theorem dX8_judgedOf_0 : decode cX8_judgedOf 0 = .ok (.iconst 0, 1) := by decide +kernel
theorem dX8_judgedOf_1 : decode cX8_judgedOf 1 = .ok (.istore 7, 2) := by decide +kernel
theorem dX8_judgedOf_3 : decode cX8_judgedOf 3 = .ok (.sipush 201, 3) := by decide +kernel
theorem dX8_judgedOf_6 : decode cX8_judgedOf 6 = .ok (.iload_n 1, 1) := by decide +kernel
theorem dX8_judgedOf_7 : decode cX8_judgedOf 7 = .ok (.imul, 1) := by decide +kernel
theorem dX8_judgedOf_8 : decode cX8_judgedOf 8 = .ok (.istore 8, 2) := by decide +kernel
theorem dX8_judgedOf_10 : decode cX8_judgedOf 10 = .ok (.iload 8, 2) := by decide +kernel
theorem dX8_judgedOf_12 : decode cX8_judgedOf 12 = .ok (.sipush 201, 3) := by decide +kernel
theorem dX8_judgedOf_15 : decode cX8_judgedOf 15 = .ok (.iload_n 1, 1) := by decide +kernel
theorem dX8_judgedOf_16 : decode cX8_judgedOf 16 = .ok (.imul, 1) := by decide +kernel
theorem dX8_judgedOf_17 : decode cX8_judgedOf 17 = .ok (.aload_n 0, 1) := by decide +kernel
theorem dX8_judgedOf_18 : decode cX8_judgedOf 18 = .ok (.getfield 44, 3) := by decide +kernel
theorem dX8_judgedOf_21 : decode cX8_judgedOf 21 = .ok (.iload_n 1, 1) := by decide +kernel
theorem dX8_judgedOf_22 : decode cX8_judgedOf 22 = .ok (.iaload, 1) := by decide +kernel
theorem dX8_judgedOf_23 : decode cX8_judgedOf 23 = .ok (.iadd, 1) := by decide +kernel
theorem dX8_judgedOf_24 : decode cX8_judgedOf 24 = .ok (.if_icmp .ge 59, 3) := by decide +kernel
theorem dX8_judgedOf_27 : decode cX8_judgedOf 27 = .ok (.iload 7, 2) := by decide +kernel
theorem dX8_judgedOf_29 : decode cX8_judgedOf 29 = .ok (.aload_n 0, 1) := by decide +kernel
theorem dX8_judgedOf_30 : decode cX8_judgedOf 30 = .ok (.getfield 50, 3) := by decide +kernel
theorem dX8_judgedOf_33 : decode cX8_judgedOf 33 = .ok (.iload 8, 2) := by decide +kernel
theorem dX8_judgedOf_35 : decode cX8_judgedOf 35 = .ok (.iaload, 1) := by decide +kernel
theorem dX8_judgedOf_36 : decode cX8_judgedOf 36 = .ok (.iload_n 2, 1) := by decide +kernel
theorem dX8_judgedOf_37 : decode cX8_judgedOf 37 = .ok (.if_icmp .ne 36, 3) := by decide +kernel
theorem dX8_judgedOf_40 : decode cX8_judgedOf 40 = .ok (.aload_n 0, 1) := by decide +kernel
theorem dX8_judgedOf_41 : decode cX8_judgedOf 41 = .ok (.getfield 53, 3) := by decide +kernel
theorem dX8_judgedOf_44 : decode cX8_judgedOf 44 = .ok (.iload 8, 2) := by decide +kernel
theorem dX8_judgedOf_46 : decode cX8_judgedOf 46 = .ok (.iaload, 1) := by decide +kernel
theorem dX8_judgedOf_47 : decode cX8_judgedOf 47 = .ok (.iload_n 3, 1) := by decide +kernel
theorem dX8_judgedOf_48 : decode cX8_judgedOf 48 = .ok (.if_icmp .ne 25, 3) := by decide +kernel
theorem dX8_judgedOf_51 : decode cX8_judgedOf 51 = .ok (.iload 6, 2) := by decide +kernel
theorem dX8_judgedOf_53 : decode cX8_judgedOf 53 = .ok (.ifCond .ne 16, 3) := by decide +kernel
theorem dX8_judgedOf_56 : decode cX8_judgedOf 56 = .ok (.aload_n 0, 1) := by decide +kernel
theorem dX8_judgedOf_57 : decode cX8_judgedOf 57 = .ok (.getfield 56, 3) := by decide +kernel
theorem dX8_judgedOf_60 : decode cX8_judgedOf 60 = .ok (.iload 8, 2) := by decide +kernel
theorem dX8_judgedOf_62 : decode cX8_judgedOf 62 = .ok (.laload, 1) := by decide +kernel
theorem dX8_judgedOf_63 : decode cX8_judgedOf 63 = .ok (.lload 4, 2) := by decide +kernel
theorem dX8_judgedOf_65 : decode cX8_judgedOf 65 = .ok (.lcmp, 1) := by decide +kernel
theorem dX8_judgedOf_66 : decode cX8_judgedOf 66 = .ok (.ifCond .ne 7, 3) := by decide +kernel
theorem dX8_judgedOf_69 : decode cX8_judgedOf 69 = .ok (.iconst 1, 1) := by decide +kernel
theorem dX8_judgedOf_70 : decode cX8_judgedOf 70 = .ok (.goto 4, 3) := by decide +kernel
theorem dX8_judgedOf_73 : decode cX8_judgedOf 73 = .ok (.iconst 0, 1) := by decide +kernel
theorem dX8_judgedOf_74 : decode cX8_judgedOf 74 = .ok (.iadd, 1) := by decide +kernel
theorem dX8_judgedOf_75 : decode cX8_judgedOf 75 = .ok (.istore 7, 2) := by decide +kernel
theorem dX8_judgedOf_77 : decode cX8_judgedOf 77 = .ok (.iinc 8 1, 3) := by decide +kernel
theorem dX8_judgedOf_80 : decode cX8_judgedOf 80 = .ok (.goto (-70), 3) := by decide +kernel
theorem dX8_judgedOf_83 : decode cX8_judgedOf 83 = .ok (.iload 7, 2) := by decide +kernel
theorem dX8_judgedOf_85 : decode cX8_judgedOf 85 = .ok (.ireturn, 1) := by decide +kernel
theorem dX8_toldOf_0 : decode cX8_toldOf 0 = .ok (.iconst 0, 1) := by decide +kernel
theorem dX8_toldOf_1 : decode cX8_toldOf 1 = .ok (.istore 7, 2) := by decide +kernel
theorem dX8_toldOf_3 : decode cX8_toldOf 3 = .ok (.bipush 40, 2) := by decide +kernel
theorem dX8_toldOf_5 : decode cX8_toldOf 5 = .ok (.iload_n 1, 1) := by decide +kernel
theorem dX8_toldOf_6 : decode cX8_toldOf 6 = .ok (.imul, 1) := by decide +kernel
theorem dX8_toldOf_7 : decode cX8_toldOf 7 = .ok (.istore 8, 2) := by decide +kernel
theorem dX8_toldOf_9 : decode cX8_toldOf 9 = .ok (.iload 8, 2) := by decide +kernel
theorem dX8_toldOf_11 : decode cX8_toldOf 11 = .ok (.bipush 40, 2) := by decide +kernel
theorem dX8_toldOf_13 : decode cX8_toldOf 13 = .ok (.iload_n 1, 1) := by decide +kernel
theorem dX8_toldOf_14 : decode cX8_toldOf 14 = .ok (.imul, 1) := by decide +kernel
theorem dX8_toldOf_15 : decode cX8_toldOf 15 = .ok (.aload_n 0, 1) := by decide +kernel
theorem dX8_toldOf_16 : decode cX8_toldOf 16 = .ok (.getfield 60, 3) := by decide +kernel
theorem dX8_toldOf_19 : decode cX8_toldOf 19 = .ok (.iload_n 1, 1) := by decide +kernel
theorem dX8_toldOf_20 : decode cX8_toldOf 20 = .ok (.iaload, 1) := by decide +kernel
theorem dX8_toldOf_21 : decode cX8_toldOf 21 = .ok (.iadd, 1) := by decide +kernel
theorem dX8_toldOf_22 : decode cX8_toldOf 22 = .ok (.if_icmp .ge 59, 3) := by decide +kernel
theorem dX8_toldOf_25 : decode cX8_toldOf 25 = .ok (.iload 7, 2) := by decide +kernel
theorem dX8_toldOf_27 : decode cX8_toldOf 27 = .ok (.aload_n 0, 1) := by decide +kernel
theorem dX8_toldOf_28 : decode cX8_toldOf 28 = .ok (.getfield 63, 3) := by decide +kernel
theorem dX8_toldOf_31 : decode cX8_toldOf 31 = .ok (.iload 8, 2) := by decide +kernel
theorem dX8_toldOf_33 : decode cX8_toldOf 33 = .ok (.iaload, 1) := by decide +kernel
theorem dX8_toldOf_34 : decode cX8_toldOf 34 = .ok (.iload_n 2, 1) := by decide +kernel
theorem dX8_toldOf_35 : decode cX8_toldOf 35 = .ok (.if_icmp .ne 36, 3) := by decide +kernel
theorem dX8_toldOf_38 : decode cX8_toldOf 38 = .ok (.aload_n 0, 1) := by decide +kernel
theorem dX8_toldOf_39 : decode cX8_toldOf 39 = .ok (.getfield 66, 3) := by decide +kernel
theorem dX8_toldOf_42 : decode cX8_toldOf 42 = .ok (.iload 8, 2) := by decide +kernel
theorem dX8_toldOf_44 : decode cX8_toldOf 44 = .ok (.iaload, 1) := by decide +kernel
theorem dX8_toldOf_45 : decode cX8_toldOf 45 = .ok (.iload_n 3, 1) := by decide +kernel
theorem dX8_toldOf_46 : decode cX8_toldOf 46 = .ok (.if_icmp .ne 25, 3) := by decide +kernel
theorem dX8_toldOf_49 : decode cX8_toldOf 49 = .ok (.iload 6, 2) := by decide +kernel
theorem dX8_toldOf_51 : decode cX8_toldOf 51 = .ok (.ifCond .ne 16, 3) := by decide +kernel
theorem dX8_toldOf_54 : decode cX8_toldOf 54 = .ok (.aload_n 0, 1) := by decide +kernel
theorem dX8_toldOf_55 : decode cX8_toldOf 55 = .ok (.getfield 69, 3) := by decide +kernel
theorem dX8_toldOf_58 : decode cX8_toldOf 58 = .ok (.iload 8, 2) := by decide +kernel
theorem dX8_toldOf_60 : decode cX8_toldOf 60 = .ok (.laload, 1) := by decide +kernel
theorem dX8_toldOf_61 : decode cX8_toldOf 61 = .ok (.lload 4, 2) := by decide +kernel
theorem dX8_toldOf_63 : decode cX8_toldOf 63 = .ok (.lcmp, 1) := by decide +kernel
theorem dX8_toldOf_64 : decode cX8_toldOf 64 = .ok (.ifCond .ne 7, 3) := by decide +kernel
theorem dX8_toldOf_67 : decode cX8_toldOf 67 = .ok (.iconst 1, 1) := by decide +kernel
theorem dX8_toldOf_68 : decode cX8_toldOf 68 = .ok (.goto 4, 3) := by decide +kernel
theorem dX8_toldOf_71 : decode cX8_toldOf 71 = .ok (.iconst 0, 1) := by decide +kernel
theorem dX8_toldOf_72 : decode cX8_toldOf 72 = .ok (.iadd, 1) := by decide +kernel
theorem dX8_toldOf_73 : decode cX8_toldOf 73 = .ok (.istore 7, 2) := by decide +kernel
theorem dX8_toldOf_75 : decode cX8_toldOf 75 = .ok (.iinc 8 1, 3) := by decide +kernel
theorem dX8_toldOf_78 : decode cX8_toldOf 78 = .ok (.goto (-69), 3) := by decide +kernel
theorem dX8_toldOf_81 : decode cX8_toldOf 81 = .ok (.iload 7, 2) := by decide +kernel
theorem dX8_toldOf_83 : decode cX8_toldOf 83 = .ok (.ireturn, 1) := by decide +kernel
theorem dX8_bySets_0 : decode cX8_bySets 0 = .ok (.iconst 0, 1) := by decide +kernel
theorem dX8_bySets_1 : decode cX8_bySets 1 = .ok (.istore_n 2, 1) := by decide +kernel
theorem dX8_bySets_2 : decode cX8_bySets 2 = .ok (.iconst 0, 1) := by decide +kernel
theorem dX8_bySets_3 : decode cX8_bySets 3 = .ok (.istore_n 3, 1) := by decide +kernel
theorem dX8_bySets_4 : decode cX8_bySets 4 = .ok (.iconst 0, 1) := by decide +kernel
theorem dX8_bySets_5 : decode cX8_bySets 5 = .ok (.istore 4, 2) := by decide +kernel
theorem dX8_bySets_7 : decode cX8_bySets 7 = .ok (.iconst 0, 1) := by decide +kernel
theorem dX8_bySets_8 : decode cX8_bySets 8 = .ok (.istore 5, 2) := by decide +kernel
theorem dX8_bySets_10 : decode cX8_bySets 10 = .ok (.iload 5, 2) := by decide +kernel
theorem dX8_bySets_12 : decode cX8_bySets 12 = .ok (.aload_n 0, 1) := by decide +kernel
theorem dX8_bySets_13 : decode cX8_bySets 13 = .ok (.getfield 44, 3) := by decide +kernel
theorem dX8_bySets_16 : decode cX8_bySets 16 = .ok (.iload_n 1, 1) := by decide +kernel
theorem dX8_bySets_17 : decode cX8_bySets 17 = .ok (.iaload, 1) := by decide +kernel
theorem dX8_bySets_18 : decode cX8_bySets 18 = .ok (.aload_n 0, 1) := by decide +kernel
theorem dX8_bySets_19 : decode cX8_bySets 19 = .ok (.getfield 60, 3) := by decide +kernel
theorem dX8_bySets_22 : decode cX8_bySets 22 = .ok (.iload_n 1, 1) := by decide +kernel
theorem dX8_bySets_23 : decode cX8_bySets 23 = .ok (.iaload, 1) := by decide +kernel
theorem dX8_bySets_24 : decode cX8_bySets 24 = .ok (.iadd, 1) := by decide +kernel
theorem dX8_bySets_25 : decode cX8_bySets 25 = .ok (.if_icmp .ge 190, 3) := by decide +kernel
theorem dX8_bySets_28 : decode cX8_bySets 28 = .ok (.iload 5, 2) := by decide +kernel
theorem dX8_bySets_30 : decode cX8_bySets 30 = .ok (.aload_n 0, 1) := by decide +kernel
theorem dX8_bySets_31 : decode cX8_bySets 31 = .ok (.getfield 44, 3) := by decide +kernel
theorem dX8_bySets_34 : decode cX8_bySets 34 = .ok (.iload_n 1, 1) := by decide +kernel
theorem dX8_bySets_35 : decode cX8_bySets 35 = .ok (.iaload, 1) := by decide +kernel
theorem dX8_bySets_36 : decode cX8_bySets 36 = .ok (.if_icmp .ge 7, 3) := by decide +kernel
theorem dX8_bySets_39 : decode cX8_bySets 39 = .ok (.iconst 1, 1) := by decide +kernel
theorem dX8_bySets_40 : decode cX8_bySets 40 = .ok (.goto 4, 3) := by decide +kernel
theorem dX8_bySets_43 : decode cX8_bySets 43 = .ok (.iconst 0, 1) := by decide +kernel
theorem dX8_bySets_44 : decode cX8_bySets 44 = .ok (.istore 6, 2) := by decide +kernel
theorem dX8_bySets_46 : decode cX8_bySets 46 = .ok (.iload 6, 2) := by decide +kernel
theorem dX8_bySets_48 : decode cX8_bySets 48 = .ok (.ifCond .eq 14, 3) := by decide +kernel
theorem dX8_bySets_51 : decode cX8_bySets 51 = .ok (.sipush 201, 3) := by decide +kernel
theorem dX8_bySets_54 : decode cX8_bySets 54 = .ok (.iload_n 1, 1) := by decide +kernel
theorem dX8_bySets_55 : decode cX8_bySets 55 = .ok (.imul, 1) := by decide +kernel
theorem dX8_bySets_56 : decode cX8_bySets 56 = .ok (.iload 5, 2) := by decide +kernel
theorem dX8_bySets_58 : decode cX8_bySets 58 = .ok (.iadd, 1) := by decide +kernel
theorem dX8_bySets_59 : decode cX8_bySets 59 = .ok (.goto 17, 3) := by decide +kernel
theorem dX8_bySets_62 : decode cX8_bySets 62 = .ok (.bipush 40, 2) := by decide +kernel
theorem dX8_bySets_64 : decode cX8_bySets 64 = .ok (.iload_n 1, 1) := by decide +kernel
theorem dX8_bySets_65 : decode cX8_bySets 65 = .ok (.imul, 1) := by decide +kernel
theorem dX8_bySets_66 : decode cX8_bySets 66 = .ok (.iload 5, 2) := by decide +kernel
theorem dX8_bySets_68 : decode cX8_bySets 68 = .ok (.iadd, 1) := by decide +kernel
theorem dX8_bySets_69 : decode cX8_bySets 69 = .ok (.aload_n 0, 1) := by decide +kernel
theorem dX8_bySets_70 : decode cX8_bySets 70 = .ok (.getfield 44, 3) := by decide +kernel
theorem dX8_bySets_73 : decode cX8_bySets 73 = .ok (.iload_n 1, 1) := by decide +kernel
theorem dX8_bySets_74 : decode cX8_bySets 74 = .ok (.iaload, 1) := by decide +kernel
theorem dX8_bySets_75 : decode cX8_bySets 75 = .ok (.isub, 1) := by decide +kernel
theorem dX8_bySets_76 : decode cX8_bySets 76 = .ok (.istore 7, 2) := by decide +kernel
theorem dX8_bySets_78 : decode cX8_bySets 78 = .ok (.iload 6, 2) := by decide +kernel
theorem dX8_bySets_80 : decode cX8_bySets 80 = .ok (.ifCond .eq 13, 3) := by decide +kernel
theorem dX8_bySets_83 : decode cX8_bySets 83 = .ok (.aload_n 0, 1) := by decide +kernel
theorem dX8_bySets_84 : decode cX8_bySets 84 = .ok (.getfield 50, 3) := by decide +kernel
theorem dX8_bySets_87 : decode cX8_bySets 87 = .ok (.iload 7, 2) := by decide +kernel
theorem dX8_bySets_89 : decode cX8_bySets 89 = .ok (.iaload, 1) := by decide +kernel
theorem dX8_bySets_90 : decode cX8_bySets 90 = .ok (.goto 10, 3) := by decide +kernel
theorem dX8_bySets_93 : decode cX8_bySets 93 = .ok (.aload_n 0, 1) := by decide +kernel
theorem dX8_bySets_94 : decode cX8_bySets 94 = .ok (.getfield 63, 3) := by decide +kernel
theorem dX8_bySets_97 : decode cX8_bySets 97 = .ok (.iload 7, 2) := by decide +kernel
theorem dX8_bySets_99 : decode cX8_bySets 99 = .ok (.iaload, 1) := by decide +kernel
theorem dX8_bySets_100 : decode cX8_bySets 100 = .ok (.istore 8, 2) := by decide +kernel
theorem dX8_bySets_102 : decode cX8_bySets 102 = .ok (.iload 6, 2) := by decide +kernel
theorem dX8_bySets_104 : decode cX8_bySets 104 = .ok (.ifCond .eq 13, 3) := by decide +kernel
theorem dX8_bySets_107 : decode cX8_bySets 107 = .ok (.aload_n 0, 1) := by decide +kernel
theorem dX8_bySets_108 : decode cX8_bySets 108 = .ok (.getfield 53, 3) := by decide +kernel
theorem dX8_bySets_111 : decode cX8_bySets 111 = .ok (.iload 7, 2) := by decide +kernel
theorem dX8_bySets_113 : decode cX8_bySets 113 = .ok (.iaload, 1) := by decide +kernel
theorem dX8_bySets_114 : decode cX8_bySets 114 = .ok (.goto 10, 3) := by decide +kernel
theorem dX8_bySets_117 : decode cX8_bySets 117 = .ok (.aload_n 0, 1) := by decide +kernel
theorem dX8_bySets_118 : decode cX8_bySets 118 = .ok (.getfield 66, 3) := by decide +kernel
theorem dX8_bySets_121 : decode cX8_bySets 121 = .ok (.iload 7, 2) := by decide +kernel
theorem dX8_bySets_123 : decode cX8_bySets 123 = .ok (.iaload, 1) := by decide +kernel
theorem dX8_bySets_124 : decode cX8_bySets 124 = .ok (.istore 9, 2) := by decide +kernel
theorem dX8_bySets_126 : decode cX8_bySets 126 = .ok (.iload 6, 2) := by decide +kernel
theorem dX8_bySets_128 : decode cX8_bySets 128 = .ok (.ifCond .eq 13, 3) := by decide +kernel
theorem dX8_bySets_131 : decode cX8_bySets 131 = .ok (.aload_n 0, 1) := by decide +kernel
theorem dX8_bySets_132 : decode cX8_bySets 132 = .ok (.getfield 56, 3) := by decide +kernel
theorem dX8_bySets_135 : decode cX8_bySets 135 = .ok (.iload 7, 2) := by decide +kernel
theorem dX8_bySets_137 : decode cX8_bySets 137 = .ok (.laload, 1) := by decide +kernel
theorem dX8_bySets_138 : decode cX8_bySets 138 = .ok (.goto 10, 3) := by decide +kernel
theorem dX8_bySets_141 : decode cX8_bySets 141 = .ok (.aload_n 0, 1) := by decide +kernel
theorem dX8_bySets_142 : decode cX8_bySets 142 = .ok (.getfield 69, 3) := by decide +kernel
theorem dX8_bySets_145 : decode cX8_bySets 145 = .ok (.iload 7, 2) := by decide +kernel
theorem dX8_bySets_147 : decode cX8_bySets 147 = .ok (.laload, 1) := by decide +kernel
theorem dX8_bySets_148 : decode cX8_bySets 148 = .ok (.lstore 10, 2) := by decide +kernel
theorem dX8_bySets_150 : decode cX8_bySets 150 = .ok (.aload_n 0, 1) := by decide +kernel
theorem dX8_bySets_151 : decode cX8_bySets 151 = .ok (.iload_n 1, 1) := by decide +kernel
theorem dX8_bySets_152 : decode cX8_bySets 152 = .ok (.iload 8, 2) := by decide +kernel
theorem dX8_bySets_154 : decode cX8_bySets 154 = .ok (.iload 9, 2) := by decide +kernel
theorem dX8_bySets_156 : decode cX8_bySets 156 = .ok (.lload 10, 2) := by decide +kernel
theorem dX8_bySets_158 : decode cX8_bySets 158 = .ok (.iconst 0, 1) := by decide +kernel
theorem dX8_bySets_159 : decode cX8_bySets 159 = .ok (.invokevirtual 164, 3) := by decide +kernel
