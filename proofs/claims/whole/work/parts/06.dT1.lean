theorem d_T_learn_7 : decode b_T_learn 7 = .ok (.iconst 1, 1) := by decide +kernel
theorem d_T_learn_8 : decode b_T_learn 8 = .ok (.iadd, 1) := by decide +kernel
theorem d_T_learn_9 : decode b_T_learn 9 = .ok (.iastore, 1) := by decide +kernel
theorem d_T_learn_10 : decode b_T_learn 10 = .ok (.aload_n 0, 1) := by decide +kernel
theorem d_T_learn_11 : decode b_T_learn 11 = .ok (.getfield 17, 3) := by decide +kernel
theorem d_T_learn_14 : decode b_T_learn 14 = .ok (.iload_n 1, 1) := by decide +kernel
theorem d_T_learn_15 : decode b_T_learn 15 = .ok (.bipush 31, 2) := by decide +kernel
theorem d_T_learn_17 : decode b_T_learn 17 = .ok (.aload_n 0, 1) := by decide +kernel
theorem d_T_learn_18 : decode b_T_learn 18 = .ok (.getfield 17, 3) := by decide +kernel
theorem d_T_learn_21 : decode b_T_learn 21 = .ok (.iload_n 1, 1) := by decide +kernel
theorem d_T_learn_22 : decode b_T_learn 22 = .ok (.iaload, 1) := by decide +kernel
theorem d_T_learn_23 : decode b_T_learn 23 = .ok (.imul, 1) := by decide +kernel
theorem d_T_learn_24 : decode b_T_learn 24 = .ok (.iload_n 2, 1) := by decide +kernel
theorem d_T_learn_25 : decode b_T_learn 25 = .ok (.iadd, 1) := by decide +kernel
theorem d_T_learn_26 : decode b_T_learn 26 = .ok (.iastore, 1) := by decide +kernel
theorem d_T_learn_27 : decode b_T_learn 27 = .ok (.aload_n 0, 1) := by decide +kernel
theorem d_T_learn_28 : decode b_T_learn 28 = .ok (.getfield 32, 3) := by decide +kernel
theorem d_T_learn_31 : decode b_T_learn 31 = .ok (.bipush 40, 2) := by decide +kernel
theorem d_T_learn_33 : decode b_T_learn 33 = .ok (.iload_n 1, 1) := by decide +kernel
theorem d_T_learn_34 : decode b_T_learn 34 = .ok (.imul, 1) := by decide +kernel
theorem d_T_learn_35 : decode b_T_learn 35 = .ok (.aload_n 0, 1) := by decide +kernel
theorem d_T_learn_36 : decode b_T_learn 36 = .ok (.getfield 13, 3) := by decide +kernel
theorem d_T_learn_39 : decode b_T_learn 39 = .ok (.iload_n 1, 1) := by decide +kernel
theorem d_T_learn_40 : decode b_T_learn 40 = .ok (.iaload, 1) := by decide +kernel
theorem d_T_learn_41 : decode b_T_learn 41 = .ok (.bipush 40, 2) := by decide +kernel
theorem d_T_learn_43 : decode b_T_learn 43 = .ok (.irem, 1) := by decide +kernel
theorem d_T_learn_44 : decode b_T_learn 44 = .ok (.iadd, 1) := by decide +kernel
theorem d_T_learn_45 : decode b_T_learn 45 = .ok (.iload_n 2, 1) := by decide +kernel
theorem d_T_learn_46 : decode b_T_learn 46 = .ok (.iastore, 1) := by decide +kernel
theorem d_T_learn_47 : decode b_T_learn 47 = .ok (.aload_n 0, 1) := by decide +kernel
theorem d_T_learn_48 : decode b_T_learn 48 = .ok (.getfield 20, 3) := by decide +kernel
theorem d_T_learn_51 : decode b_T_learn 51 = .ok (.iload_n 1, 1) := by decide +kernel
theorem d_T_learn_52 : decode b_T_learn 52 = .ok (.iaload, 1) := by decide +kernel
theorem d_T_learn_53 : decode b_T_learn 53 = .ok (.aload_n 0, 1) := by decide +kernel
theorem d_T_learn_54 : decode b_T_learn 54 = .ok (.getfield 13, 3) := by decide +kernel
theorem d_T_learn_57 : decode b_T_learn 57 = .ok (.iload_n 1, 1) := by decide +kernel
theorem d_T_learn_58 : decode b_T_learn 58 = .ok (.iaload, 1) := by decide +kernel
theorem d_T_learn_59 : decode b_T_learn 59 = .ok (.aload_n 0, 1) := by decide +kernel
theorem d_T_learn_60 : decode b_T_learn 60 = .ok (.getfield 69, 3) := by decide +kernel
theorem d_T_learn_63 : decode b_T_learn 63 = .ok (.isub, 1) := by decide +kernel
theorem d_T_learn_64 : decode b_T_learn 64 = .ok (.if_icmp .ge 20, 3) := by decide +kernel
theorem d_T_learn_67 : decode b_T_learn 67 = .ok (.aload_n 0, 1) := by decide +kernel
theorem d_T_learn_68 : decode b_T_learn 68 = .ok (.getfield 20, 3) := by decide +kernel
theorem d_T_learn_71 : decode b_T_learn 71 = .ok (.iload_n 1, 1) := by decide +kernel
theorem d_T_learn_72 : decode b_T_learn 72 = .ok (.aload_n 0, 1) := by decide +kernel
theorem d_T_learn_73 : decode b_T_learn 73 = .ok (.getfield 13, 3) := by decide +kernel
theorem d_T_learn_76 : decode b_T_learn 76 = .ok (.iload_n 1, 1) := by decide +kernel
theorem d_T_learn_77 : decode b_T_learn 77 = .ok (.iaload, 1) := by decide +kernel
theorem d_T_learn_78 : decode b_T_learn 78 = .ok (.aload_n 0, 1) := by decide +kernel
theorem d_T_learn_79 : decode b_T_learn 79 = .ok (.getfield 69, 3) := by decide +kernel
theorem d_T_learn_82 : decode b_T_learn 82 = .ok (.isub, 1) := by decide +kernel
theorem d_T_learn_83 : decode b_T_learn 83 = .ok (.iastore, 1) := by decide +kernel
theorem d_T_learn_84 : decode b_T_learn 84 = .ok (.aload_n 0, 1) := by decide +kernel
theorem d_T_learn_85 : decode b_T_learn 85 = .ok (.getfield 29, 3) := by decide +kernel
theorem d_T_learn_88 : decode b_T_learn 88 = .ok (.iload_n 1, 1) := by decide +kernel
theorem d_T_learn_89 : decode b_T_learn 89 = .ok (.iconst 0, 1) := by decide +kernel
theorem d_T_learn_90 : decode b_T_learn 90 = .ok (.iastore, 1) := by decide +kernel
theorem d_T_learn_91 : decode b_T_learn 91 = .ok (.aload_n 0, 1) := by decide +kernel
theorem d_T_learn_92 : decode b_T_learn 92 = .ok (.getfield 26, 3) := by decide +kernel
theorem d_T_learn_95 : decode b_T_learn 95 = .ok (.iload_n 1, 1) := by decide +kernel
theorem d_T_learn_96 : decode b_T_learn 96 = .ok (.iconst 0, 1) := by decide +kernel
theorem d_T_learn_97 : decode b_T_learn 97 = .ok (.iastore, 1) := by decide +kernel
theorem d_T_learn_98 : decode b_T_learn 98 = .ok (.aload_n 0, 1) := by decide +kernel
theorem d_T_learn_99 : decode b_T_learn 99 = .ok (.getfield 35, 3) := by decide +kernel
theorem d_T_learn_102 : decode b_T_learn 102 = .ok (.iload_n 1, 1) := by decide +kernel
theorem d_T_learn_103 : decode b_T_learn 103 = .ok (.iaload, 1) := by decide +kernel
theorem d_T_learn_104 : decode b_T_learn 104 = .ok (.iconst 1, 1) := by decide +kernel
theorem d_T_learn_105 : decode b_T_learn 105 = .ok (.if_icmp .ne 8, 3) := by decide +kernel
theorem d_T_learn_108 : decode b_T_learn 108 = .ok (.aload_n 0, 1) := by decide +kernel
theorem d_T_learn_109 : decode b_T_learn 109 = .ok (.iload_n 1, 1) := by decide +kernel
theorem d_T_learn_110 : decode b_T_learn 110 = .ok (.invokevirtual 92, 3) := by decide +kernel
theorem d_T_learn_113 : decode b_T_learn 113 = .ok (.aload_n 0, 1) := by decide +kernel
theorem d_T_learn_114 : decode b_T_learn 114 = .ok (.getfield 44, 3) := by decide +kernel
theorem d_T_learn_117 : decode b_T_learn 117 = .ok (.iload_n 1, 1) := by decide +kernel
theorem d_T_learn_118 : decode b_T_learn 118 = .ok (.iconst 0, 1) := by decide +kernel
theorem d_T_learn_119 : decode b_T_learn 119 = .ok (.iastore, 1) := by decide +kernel
theorem d_T_learn_120 : decode b_T_learn 120 = .ok (.aload_n 0, 1) := by decide +kernel
theorem d_T_learn_121 : decode b_T_learn 121 = .ok (.getfield 41, 3) := by decide +kernel
theorem d_T_learn_124 : decode b_T_learn 124 = .ok (.iload_n 1, 1) := by decide +kernel
theorem d_T_learn_125 : decode b_T_learn 125 = .ok (.iconst 0, 1) := by decide +kernel
theorem d_T_learn_126 : decode b_T_learn 126 = .ok (.iastore, 1) := by decide +kernel
theorem d_T_learn_127 : decode b_T_learn 127 = .ok (.iconst 0, 1) := by decide +kernel
theorem d_T_learn_128 : decode b_T_learn 128 = .ok (.istore_n 3, 1) := by decide +kernel
theorem d_T_learn_129 : decode b_T_learn 129 = .ok (.iconst 0, 1) := by decide +kernel
theorem d_T_learn_130 : decode b_T_learn 130 = .ok (.istore 4, 2) := by decide +kernel
theorem d_T_learn_132 : decode b_T_learn 132 = .ok (.iload 4, 2) := by decide +kernel
theorem d_T_learn_134 : decode b_T_learn 134 = .ok (.aload_n 0, 1) := by decide +kernel
theorem d_T_learn_135 : decode b_T_learn 135 = .ok (.getfield 59, 3) := by decide +kernel
theorem d_T_learn_138 : decode b_T_learn 138 = .ok (.iload_n 1, 1) := by decide +kernel
theorem d_T_learn_139 : decode b_T_learn 139 = .ok (.iaload, 1) := by decide +kernel
theorem d_T_learn_140 : decode b_T_learn 140 = .ok (.if_icmp .ge 51, 3) := by decide +kernel
theorem d_T_learn_143 : decode b_T_learn 143 = .ok (.aload_n 0, 1) := by decide +kernel
theorem d_T_learn_144 : decode b_T_learn 144 = .ok (.getfield 56, 3) := by decide +kernel
theorem d_T_learn_147 : decode b_T_learn 147 = .ok (.bipush 8, 2) := by decide +kernel
theorem d_T_learn_149 : decode b_T_learn 149 = .ok (.iload_n 1, 1) := by decide +kernel
theorem d_T_learn_150 : decode b_T_learn 150 = .ok (.imul, 1) := by decide +kernel
theorem d_T_learn_151 : decode b_T_learn 151 = .ok (.iload 4, 2) := by decide +kernel
theorem d_T_learn_153 : decode b_T_learn 153 = .ok (.iadd, 1) := by decide +kernel
theorem d_T_learn_154 : decode b_T_learn 154 = .ok (.iaload, 1) := by decide +kernel
theorem d_T_learn_155 : decode b_T_learn 155 = .ok (.iload_n 2, 1) := by decide +kernel
theorem d_T_learn_156 : decode b_T_learn 156 = .ok (.if_icmp .eq 29, 3) := by decide +kernel
theorem d_T_learn_159 : decode b_T_learn 159 = .ok (.aload_n 0, 1) := by decide +kernel
theorem d_T_learn_160 : decode b_T_learn 160 = .ok (.getfield 56, 3) := by decide +kernel
theorem d_T_learn_163 : decode b_T_learn 163 = .ok (.bipush 8, 2) := by decide +kernel
theorem d_T_learn_165 : decode b_T_learn 165 = .ok (.iload_n 1, 1) := by decide +kernel
theorem d_T_learn_166 : decode b_T_learn 166 = .ok (.imul, 1) := by decide +kernel
theorem d_T_learn_167 : decode b_T_learn 167 = .ok (.iload_n 3, 1) := by decide +kernel
theorem d_T_learn_168 : decode b_T_learn 168 = .ok (.iadd, 1) := by decide +kernel
theorem d_T_learn_169 : decode b_T_learn 169 = .ok (.aload_n 0, 1) := by decide +kernel
theorem d_T_learn_170 : decode b_T_learn 170 = .ok (.getfield 56, 3) := by decide +kernel
theorem d_T_learn_173 : decode b_T_learn 173 = .ok (.bipush 8, 2) := by decide +kernel
theorem d_T_learn_175 : decode b_T_learn 175 = .ok (.iload_n 1, 1) := by decide +kernel
theorem d_T_learn_176 : decode b_T_learn 176 = .ok (.imul, 1) := by decide +kernel
theorem d_T_learn_177 : decode b_T_learn 177 = .ok (.iload 4, 2) := by decide +kernel
theorem d_T_learn_179 : decode b_T_learn 179 = .ok (.iadd, 1) := by decide +kernel
theorem d_T_learn_180 : decode b_T_learn 180 = .ok (.iaload, 1) := by decide +kernel
theorem d_T_learn_181 : decode b_T_learn 181 = .ok (.iastore, 1) := by decide +kernel
theorem d_T_learn_182 : decode b_T_learn 182 = .ok (.iinc 3 1, 3) := by decide +kernel
theorem d_T_learn_185 : decode b_T_learn 185 = .ok (.iinc 4 1, 3) := by decide +kernel
theorem d_T_learn_188 : decode b_T_learn 188 = .ok (.goto (-56), 3) := by decide +kernel
theorem d_T_learn_191 : decode b_T_learn 191 = .ok (.aload_n 0, 1) := by decide +kernel
theorem d_T_learn_192 : decode b_T_learn 192 = .ok (.getfield 59, 3) := by decide +kernel
theorem d_T_learn_195 : decode b_T_learn 195 = .ok (.iload_n 1, 1) := by decide +kernel
theorem d_T_learn_196 : decode b_T_learn 196 = .ok (.iload_n 3, 1) := by decide +kernel
theorem d_T_learn_197 : decode b_T_learn 197 = .ok (.iastore, 1) := by decide +kernel
theorem d_T_learn_198 : decode b_T_learn 198 = .ok (.return_, 1) := by decide +kernel
theorem d_T_help_0 : decode b_T_help 0 = .ok (.iload_n 3, 1) := by decide +kernel
theorem d_T_help_1 : decode b_T_help 1 = .ok (.aload_n 0, 1) := by decide +kernel
theorem d_T_help_2 : decode b_T_help 2 = .ok (.getfield 20, 3) := by decide +kernel
theorem d_T_help_5 : decode b_T_help 5 = .ok (.iload_n 1, 1) := by decide +kernel
theorem d_T_help_6 : decode b_T_help 6 = .ok (.iaload, 1) := by decide +kernel
theorem d_T_help_7 : decode b_T_help 7 = .ok (.if_icmp .le 40, 3) := by decide +kernel
theorem d_T_help_10 : decode b_T_help 10 = .ok (.iload_n 3, 1) := by decide +kernel
theorem d_T_help_11 : decode b_T_help 11 = .ok (.aload_n 0, 1) := by decide +kernel
theorem d_T_help_12 : decode b_T_help 12 = .ok (.getfield 13, 3) := by decide +kernel
theorem d_T_help_15 : decode b_T_help 15 = .ok (.iload_n 1, 1) := by decide +kernel
theorem d_T_help_16 : decode b_T_help 16 = .ok (.iaload, 1) := by decide +kernel
theorem d_T_help_17 : decode b_T_help 17 = .ok (.if_icmp .gt 30, 3) := by decide +kernel
theorem d_T_help_20 : decode b_T_help 20 = .ok (.aload_n 0, 1) := by decide +kernel
theorem d_T_help_21 : decode b_T_help 21 = .ok (.iconst 5, 1) := by decide +kernel
theorem d_T_help_22 : decode b_T_help 22 = .ok (.iload_n 1, 1) := by decide +kernel
theorem d_T_help_23 : decode b_T_help 23 = .ok (.iload_n 2, 1) := by decide +kernel
theorem d_T_help_24 : decode b_T_help 24 = .ok (.iconst 0, 1) := by decide +kernel
theorem d_T_help_25 : decode b_T_help 25 = .ok (.iload_n 3, 1) := by decide +kernel
theorem d_T_help_26 : decode b_T_help 26 = .ok (.aload_n 0, 1) := by decide +kernel
theorem d_T_help_27 : decode b_T_help 27 = .ok (.getfield 32, 3) := by decide +kernel
theorem d_T_help_30 : decode b_T_help 30 = .ok (.bipush 40, 2) := by decide +kernel
theorem d_T_help_32 : decode b_T_help 32 = .ok (.iload_n 1, 1) := by decide +kernel
theorem d_T_help_33 : decode b_T_help 33 = .ok (.imul, 1) := by decide +kernel
theorem d_T_help_34 : decode b_T_help 34 = .ok (.iload_n 3, 1) := by decide +kernel
theorem d_T_help_35 : decode b_T_help 35 = .ok (.bipush 40, 2) := by decide +kernel
theorem d_T_help_37 : decode b_T_help 37 = .ok (.irem, 1) := by decide +kernel
theorem d_T_help_38 : decode b_T_help 38 = .ok (.iadd, 1) := by decide +kernel
theorem d_T_help_39 : decode b_T_help 39 = .ok (.iaload, 1) := by decide +kernel
theorem d_T_help_40 : decode b_T_help 40 = .ok (.iconst 0, 1) := by decide +kernel
theorem d_T_help_41 : decode b_T_help 41 = .ok (.invokevirtual 88, 3) := by decide +kernel
theorem d_T_help_44 : decode b_T_help 44 = .ok (.goto 25, 3) := by decide +kernel
theorem d_T_help_47 : decode b_T_help 47 = .ok (.aload_n 0, 1) := by decide +kernel
theorem d_T_help_48 : decode b_T_help 48 = .ok (.bipush 8, 2) := by decide +kernel
theorem d_T_help_50 : decode b_T_help 50 = .ok (.iload_n 1, 1) := by decide +kernel
theorem d_T_help_51 : decode b_T_help 51 = .ok (.iload_n 2, 1) := by decide +kernel
theorem d_T_help_52 : decode b_T_help 52 = .ok (.iconst 0, 1) := by decide +kernel
theorem d_T_help_53 : decode b_T_help 53 = .ok (.aload_n 0, 1) := by decide +kernel
theorem d_T_help_54 : decode b_T_help 54 = .ok (.getfield 13, 3) := by decide +kernel
theorem d_T_help_57 : decode b_T_help 57 = .ok (.iload_n 1, 1) := by decide +kernel
theorem d_T_help_58 : decode b_T_help 58 = .ok (.iaload, 1) := by decide +kernel
theorem d_T_help_59 : decode b_T_help 59 = .ok (.aload_n 0, 1) := by decide +kernel
theorem d_T_help_60 : decode b_T_help 60 = .ok (.getfield 17, 3) := by decide +kernel
theorem d_T_help_63 : decode b_T_help 63 = .ok (.iload_n 1, 1) := by decide +kernel
theorem d_T_help_64 : decode b_T_help 64 = .ok (.iaload, 1) := by decide +kernel
theorem d_T_help_65 : decode b_T_help 65 = .ok (.iconst 0, 1) := by decide +kernel
theorem d_T_help_66 : decode b_T_help 66 = .ok (.invokevirtual 88, 3) := by decide +kernel
theorem d_T_help_69 : decode b_T_help 69 = .ok (.return_, 1) := by decide +kernel
theorem d_T_count_0 : decode b_T_count 0 = .ok (.iconst 0, 1) := by decide +kernel
theorem d_T_count_1 : decode b_T_count 1 = .ok (.istore_n 2, 1) := by decide +kernel
theorem d_T_count_2 : decode b_T_count 2 = .ok (.iconst 0, 1) := by decide +kernel
theorem d_T_count_3 : decode b_T_count 3 = .ok (.istore_n 3, 1) := by decide +kernel
theorem d_T_count_4 : decode b_T_count 4 = .ok (.iload_n 3, 1) := by decide +kernel
theorem d_T_count_5 : decode b_T_count 5 = .ok (.aload_n 0, 1) := by decide +kernel
theorem d_T_count_6 : decode b_T_count 6 = .ok (.getfield 65, 3) := by decide +kernel
theorem d_T_count_9 : decode b_T_count 9 = .ok (.if_icmp .ge 17, 3) := by decide +kernel
theorem d_T_count_12 : decode b_T_count 12 = .ok (.iload_n 2, 1) := by decide +kernel
theorem d_T_count_13 : decode b_T_count 13 = .ok (.iload_n 1, 1) := by decide +kernel
theorem d_T_count_14 : decode b_T_count 14 = .ok (.iload_n 3, 1) := by decide +kernel
theorem d_T_count_15 : decode b_T_count 15 = .ok (.ishr, 1) := by decide +kernel
theorem d_T_count_16 : decode b_T_count 16 = .ok (.iconst 1, 1) := by decide +kernel
theorem d_T_count_17 : decode b_T_count 17 = .ok (.iand, 1) := by decide +kernel
theorem d_T_count_18 : decode b_T_count 18 = .ok (.iadd, 1) := by decide +kernel
theorem d_T_count_19 : decode b_T_count 19 = .ok (.istore_n 2, 1) := by decide +kernel
theorem d_T_count_20 : decode b_T_count 20 = .ok (.iinc 3 1, 3) := by decide +kernel
theorem d_T_count_23 : decode b_T_count 23 = .ok (.goto (-19), 3) := by decide +kernel
theorem d_T_count_26 : decode b_T_count 26 = .ok (.iload_n 2, 1) := by decide +kernel
theorem d_T_count_27 : decode b_T_count 27 = .ok (.ireturn, 1) := by decide +kernel
theorem d_T_prepared_0 : decode b_T_prepared 0 = .ok (.iload 4, 2) := by decide +kernel
theorem d_T_prepared_2 : decode b_T_prepared 2 = .ok (.aload_n 0, 1) := by decide +kernel
theorem d_T_prepared_3 : decode b_T_prepared 3 = .ok (.getfield 13, 3) := by decide +kernel
theorem d_T_prepared_6 : decode b_T_prepared 6 = .ok (.iload_n 1, 1) := by decide +kernel
theorem d_T_prepared_7 : decode b_T_prepared 7 = .ok (.iaload, 1) := by decide +kernel
theorem d_T_prepared_8 : decode b_T_prepared 8 = .ok (.if_icmp .gt 14, 3) := by decide +kernel
theorem d_T_prepared_11 : decode b_T_prepared 11 = .ok (.aload_n 0, 1) := by decide +kernel
theorem d_T_prepared_12 : decode b_T_prepared 12 = .ok (.iload_n 1, 1) := by decide +kernel
theorem d_T_prepared_13 : decode b_T_prepared 13 = .ok (.iload_n 2, 1) := by decide +kernel
theorem d_T_prepared_14 : decode b_T_prepared 14 = .ok (.iload 4, 2) := by decide +kernel
theorem d_T_prepared_16 : decode b_T_prepared 16 = .ok (.invokevirtual 104, 3) := by decide +kernel
theorem d_T_prepared_19 : decode b_T_prepared 19 = .ok (.goto 114, 3) := by decide +kernel
theorem d_T_prepared_22 : decode b_T_prepared 22 = .ok (.iload_n 3, 1) := by decide +kernel
theorem d_T_prepared_23 : decode b_T_prepared 23 = .ok (.aload_n 0, 1) := by decide +kernel
theorem d_T_prepared_24 : decode b_T_prepared 24 = .ok (.getfield 23, 3) := by decide +kernel
theorem d_T_prepared_27 : decode b_T_prepared 27 = .ok (.iload_n 1, 1) := by decide +kernel
theorem d_T_prepared_28 : decode b_T_prepared 28 = .ok (.iaload, 1) := by decide +kernel
theorem d_T_prepared_29 : decode b_T_prepared 29 = .ok (.if_icmp .lt 87, 3) := by decide +kernel
theorem d_T_prepared_32 : decode b_T_prepared 32 = .ok (.aload_n 0, 1) := by decide +kernel
theorem d_T_prepared_33 : decode b_T_prepared 33 = .ok (.getfield 23, 3) := by decide +kernel
theorem d_T_prepared_36 : decode b_T_prepared 36 = .ok (.iload_n 1, 1) := by decide +kernel
theorem d_T_prepared_37 : decode b_T_prepared 37 = .ok (.iload_n 3, 1) := by decide +kernel
theorem d_T_prepared_38 : decode b_T_prepared 38 = .ok (.iastore, 1) := by decide +kernel
theorem d_T_prepared_39 : decode b_T_prepared 39 = .ok (.aload_n 0, 1) := by decide +kernel
theorem d_T_prepared_40 : decode b_T_prepared 40 = .ok (.iload_n 1, 1) := by decide +kernel
theorem d_T_prepared_41 : decode b_T_prepared 41 = .ok (.invokevirtual 92, 3) := by decide +kernel
theorem d_T_prepared_44 : decode b_T_prepared 44 = .ok (.iload 4, 2) := by decide +kernel
theorem d_T_prepared_46 : decode b_T_prepared 46 = .ok (.aload_n 0, 1) := by decide +kernel
theorem d_T_prepared_47 : decode b_T_prepared 47 = .ok (.getfield 13, 3) := by decide +kernel
theorem d_T_prepared_50 : decode b_T_prepared 50 = .ok (.iload_n 1, 1) := by decide +kernel
theorem d_T_prepared_51 : decode b_T_prepared 51 = .ok (.iaload, 1) := by decide +kernel
theorem d_T_prepared_52 : decode b_T_prepared 52 = .ok (.iconst 1, 1) := by decide +kernel
theorem d_T_prepared_53 : decode b_T_prepared 53 = .ok (.iadd, 1) := by decide +kernel
theorem d_T_prepared_54 : decode b_T_prepared 54 = .ok (.if_icmp .ne 16, 3) := by decide +kernel
theorem d_T_prepared_57 : decode b_T_prepared 57 = .ok (.aload_n 0, 1) := by decide +kernel
theorem d_T_prepared_58 : decode b_T_prepared 58 = .ok (.getfield 29, 3) := by decide +kernel
theorem d_T_prepared_61 : decode b_T_prepared 61 = .ok (.iload_n 1, 1) := by decide +kernel
theorem d_T_prepared_62 : decode b_T_prepared 62 = .ok (.iaload, 1) := by decide +kernel
theorem d_T_prepared_63 : decode b_T_prepared 63 = .ok (.ifCond .le 7, 3) := by decide +kernel
theorem d_T_prepared_66 : decode b_T_prepared 66 = .ok (.iconst 1, 1) := by decide +kernel
theorem d_T_prepared_67 : decode b_T_prepared 67 = .ok (.goto 4, 3) := by decide +kernel
theorem d_T_prepared_70 : decode b_T_prepared 70 = .ok (.iconst 0, 1) := by decide +kernel
theorem d_T_prepared_71 : decode b_T_prepared 71 = .ok (.istore 5, 2) := by decide +kernel
theorem d_T_prepared_73 : decode b_T_prepared 73 = .ok (.aload_n 0, 1) := by decide +kernel
theorem d_T_prepared_74 : decode b_T_prepared 74 = .ok (.iconst 2, 1) := by decide +kernel
theorem d_T_prepared_75 : decode b_T_prepared 75 = .ok (.iload_n 1, 1) := by decide +kernel
theorem d_T_prepared_76 : decode b_T_prepared 76 = .ok (.iload_n 2, 1) := by decide +kernel
theorem d_T_prepared_77 : decode b_T_prepared 77 = .ok (.iload_n 3, 1) := by decide +kernel
theorem d_T_prepared_78 : decode b_T_prepared 78 = .ok (.iload 4, 2) := by decide +kernel
theorem d_T_prepared_80 : decode b_T_prepared 80 = .ok (.iload 5, 2) := by decide +kernel
theorem d_T_prepared_82 : decode b_T_prepared 82 = .ok (.ifCond .eq 12, 3) := by decide +kernel
theorem d_T_prepared_85 : decode b_T_prepared 85 = .ok (.aload_n 0, 1) := by decide +kernel
theorem d_T_prepared_86 : decode b_T_prepared 86 = .ok (.getfield 29, 3) := by decide +kernel
theorem d_T_prepared_89 : decode b_T_prepared 89 = .ok (.iload_n 1, 1) := by decide +kernel
theorem d_T_prepared_90 : decode b_T_prepared 90 = .ok (.iaload, 1) := by decide +kernel
theorem d_T_prepared_91 : decode b_T_prepared 91 = .ok (.goto 4, 3) := by decide +kernel
theorem d_T_prepared_94 : decode b_T_prepared 94 = .ok (.iconst 0, 1) := by decide +kernel
theorem d_T_prepared_95 : decode b_T_prepared 95 = .ok (.iload 5, 2) := by decide +kernel
theorem d_T_prepared_97 : decode b_T_prepared 97 = .ok (.ifCond .eq 12, 3) := by decide +kernel
theorem d_T_prepared_100 : decode b_T_prepared 100 = .ok (.aload_n 0, 1) := by decide +kernel
theorem d_T_prepared_101 : decode b_T_prepared 101 = .ok (.getfield 26, 3) := by decide +kernel
theorem d_T_prepared_104 : decode b_T_prepared 104 = .ok (.iload_n 1, 1) := by decide +kernel
theorem d_T_prepared_105 : decode b_T_prepared 105 = .ok (.iaload, 1) := by decide +kernel
theorem d_T_prepared_106 : decode b_T_prepared 106 = .ok (.goto 4, 3) := by decide +kernel
theorem d_T_prepared_109 : decode b_T_prepared 109 = .ok (.iconst 0, 1) := by decide +kernel
theorem d_T_prepared_110 : decode b_T_prepared 110 = .ok (.invokevirtual 88, 3) := by decide +kernel
theorem d_T_prepared_113 : decode b_T_prepared 113 = .ok (.goto 20, 3) := by decide +kernel
theorem d_T_prepared_116 : decode b_T_prepared 116 = .ok (.aload_n 0, 1) := by decide +kernel
theorem d_T_prepared_117 : decode b_T_prepared 117 = .ok (.bipush 7, 2) := by decide +kernel
theorem d_T_prepared_119 : decode b_T_prepared 119 = .ok (.iload_n 1, 1) := by decide +kernel
theorem d_T_prepared_120 : decode b_T_prepared 120 = .ok (.iload_n 2, 1) := by decide +kernel
theorem d_T_prepared_121 : decode b_T_prepared 121 = .ok (.aload_n 0, 1) := by decide +kernel
theorem d_T_prepared_122 : decode b_T_prepared 122 = .ok (.getfield 23, 3) := by decide +kernel
theorem d_T_prepared_125 : decode b_T_prepared 125 = .ok (.iload_n 1, 1) := by decide +kernel
theorem d_T_prepared_126 : decode b_T_prepared 126 = .ok (.iaload, 1) := by decide +kernel
theorem d_T_prepared_127 : decode b_T_prepared 127 = .ok (.iconst 0, 1) := by decide +kernel
theorem d_T_prepared_128 : decode b_T_prepared 128 = .ok (.iconst 0, 1) := by decide +kernel
theorem d_T_prepared_129 : decode b_T_prepared 129 = .ok (.iconst 0, 1) := by decide +kernel
theorem d_T_prepared_130 : decode b_T_prepared 130 = .ok (.invokevirtual 88, 3) := by decide +kernel
theorem d_T_prepared_133 : decode b_T_prepared 133 = .ok (.return_, 1) := by decide +kernel
theorem d_T_gotPromise_0 : decode b_T_gotPromise 0 = .ok (.aload_n 0, 1) := by decide +kernel
theorem d_T_gotPromise_1 : decode b_T_gotPromise 1 = .ok (.getfield 35, 3) := by decide +kernel
theorem d_T_gotPromise_4 : decode b_T_gotPromise 4 = .ok (.iload_n 1, 1) := by decide +kernel
theorem d_T_gotPromise_5 : decode b_T_gotPromise 5 = .ok (.iaload, 1) := by decide +kernel
theorem d_T_gotPromise_6 : decode b_T_gotPromise 6 = .ok (.iconst 1, 1) := by decide +kernel
theorem d_T_gotPromise_7 : decode b_T_gotPromise 7 = .ok (.if_icmp .ne 40, 3) := by decide +kernel
theorem d_T_gotPromise_10 : decode b_T_gotPromise 10 = .ok (.aload_n 0, 1) := by decide +kernel
theorem d_T_gotPromise_11 : decode b_T_gotPromise 11 = .ok (.getfield 38, 3) := by decide +kernel
theorem d_T_gotPromise_14 : decode b_T_gotPromise 14 = .ok (.iload_n 1, 1) := by decide +kernel
theorem d_T_gotPromise_15 : decode b_T_gotPromise 15 = .ok (.iaload, 1) := by decide +kernel
theorem d_T_gotPromise_16 : decode b_T_gotPromise 16 = .ok (.iload_n 3, 1) := by decide +kernel
theorem d_T_gotPromise_17 : decode b_T_gotPromise 17 = .ok (.if_icmp .ne 30, 3) := by decide +kernel
theorem d_T_gotPromise_20 : decode b_T_gotPromise 20 = .ok (.iload 4, 2) := by decide +kernel
theorem d_T_gotPromise_22 : decode b_T_gotPromise 22 = .ok (.aload_n 0, 1) := by decide +kernel
theorem d_T_gotPromise_23 : decode b_T_gotPromise 23 = .ok (.getfield 13, 3) := by decide +kernel
theorem d_T_gotPromise_26 : decode b_T_gotPromise 26 = .ok (.iload_n 1, 1) := by decide +kernel
theorem d_T_gotPromise_27 : decode b_T_gotPromise 27 = .ok (.iaload, 1) := by decide +kernel
theorem d_T_gotPromise_28 : decode b_T_gotPromise 28 = .ok (.iconst 1, 1) := by decide +kernel
theorem d_T_gotPromise_29 : decode b_T_gotPromise 29 = .ok (.iadd, 1) := by decide +kernel
theorem d_T_gotPromise_30 : decode b_T_gotPromise 30 = .ok (.if_icmp .ne 17, 3) := by decide +kernel
theorem d_T_gotPromise_33 : decode b_T_gotPromise 33 = .ok (.aload_n 0, 1) := by decide +kernel
theorem d_T_gotPromise_34 : decode b_T_gotPromise 34 = .ok (.getfield 41, 3) := by decide +kernel
theorem d_T_gotPromise_37 : decode b_T_gotPromise 37 = .ok (.iload_n 1, 1) := by decide +kernel
theorem d_T_gotPromise_38 : decode b_T_gotPromise 38 = .ok (.iaload, 1) := by decide +kernel
theorem d_T_gotPromise_39 : decode b_T_gotPromise 39 = .ok (.iload_n 2, 1) := by decide +kernel
theorem d_T_gotPromise_40 : decode b_T_gotPromise 40 = .ok (.ishr, 1) := by decide +kernel
theorem d_T_gotPromise_41 : decode b_T_gotPromise 41 = .ok (.iconst 1, 1) := by decide +kernel
theorem d_T_gotPromise_42 : decode b_T_gotPromise 42 = .ok (.iand, 1) := by decide +kernel
theorem d_T_gotPromise_43 : decode b_T_gotPromise 43 = .ok (.iconst 1, 1) := by decide +kernel
theorem d_T_gotPromise_44 : decode b_T_gotPromise 44 = .ok (.if_icmp .ne 4, 3) := by decide +kernel
theorem d_T_gotPromise_47 : decode b_T_gotPromise 47 = .ok (.return_, 1) := by decide +kernel
theorem d_T_gotPromise_48 : decode b_T_gotPromise 48 = .ok (.aload_n 0, 1) := by decide +kernel
theorem d_T_gotPromise_49 : decode b_T_gotPromise 49 = .ok (.getfield 41, 3) := by decide +kernel
theorem d_T_gotPromise_52 : decode b_T_gotPromise 52 = .ok (.iload_n 1, 1) := by decide +kernel
theorem d_T_gotPromise_53 : decode b_T_gotPromise 53 = .ok (.dup2, 1) := by decide +kernel
theorem d_T_gotPromise_54 : decode b_T_gotPromise 54 = .ok (.iaload, 1) := by decide +kernel
theorem d_T_gotPromise_55 : decode b_T_gotPromise 55 = .ok (.iconst 1, 1) := by decide +kernel
theorem d_T_gotPromise_56 : decode b_T_gotPromise 56 = .ok (.iload_n 2, 1) := by decide +kernel
theorem d_T_gotPromise_57 : decode b_T_gotPromise 57 = .ok (.ishl, 1) := by decide +kernel
theorem d_T_gotPromise_58 : decode b_T_gotPromise 58 = .ok (.ior, 1) := by decide +kernel
theorem d_T_gotPromise_59 : decode b_T_gotPromise 59 = .ok (.iastore, 1) := by decide +kernel
theorem d_T_gotPromise_60 : decode b_T_gotPromise 60 = .ok (.iload 6, 2) := by decide +kernel
theorem d_T_gotPromise_62 : decode b_T_gotPromise 62 = .ok (.aload_n 0, 1) := by decide +kernel
theorem d_T_gotPromise_63 : decode b_T_gotPromise 63 = .ok (.getfield 50, 3) := by decide +kernel
theorem d_T_gotPromise_66 : decode b_T_gotPromise 66 = .ok (.iload_n 1, 1) := by decide +kernel
theorem d_T_gotPromise_67 : decode b_T_gotPromise 67 = .ok (.iaload, 1) := by decide +kernel
theorem d_T_gotPromise_68 : decode b_T_gotPromise 68 = .ok (.if_icmp .le 19, 3) := by decide +kernel
theorem d_T_gotPromise_71 : decode b_T_gotPromise 71 = .ok (.aload_n 0, 1) := by decide +kernel
theorem d_T_gotPromise_72 : decode b_T_gotPromise 72 = .ok (.getfield 47, 3) := by decide +kernel
theorem d_T_gotPromise_75 : decode b_T_gotPromise 75 = .ok (.iload_n 1, 1) := by decide +kernel
theorem d_T_gotPromise_76 : decode b_T_gotPromise 76 = .ok (.iload 5, 2) := by decide +kernel
theorem d_T_gotPromise_78 : decode b_T_gotPromise 78 = .ok (.iastore, 1) := by decide +kernel
theorem d_T_gotPromise_79 : decode b_T_gotPromise 79 = .ok (.aload_n 0, 1) := by decide +kernel
theorem d_T_gotPromise_80 : decode b_T_gotPromise 80 = .ok (.getfield 50, 3) := by decide +kernel
theorem d_T_gotPromise_83 : decode b_T_gotPromise 83 = .ok (.iload_n 1, 1) := by decide +kernel
theorem d_T_gotPromise_84 : decode b_T_gotPromise 84 = .ok (.iload 6, 2) := by decide +kernel
theorem d_T_gotPromise_86 : decode b_T_gotPromise 86 = .ok (.iastore, 1) := by decide +kernel
theorem d_T_gotPromise_87 : decode b_T_gotPromise 87 = .ok (.iconst 2, 1) := by decide +kernel
theorem d_T_gotPromise_88 : decode b_T_gotPromise 88 = .ok (.aload_n 0, 1) := by decide +kernel
theorem d_T_gotPromise_89 : decode b_T_gotPromise 89 = .ok (.aload_n 0, 1) := by decide +kernel
theorem d_T_gotPromise_90 : decode b_T_gotPromise 90 = .ok (.getfield 41, 3) := by decide +kernel
theorem d_T_gotPromise_93 : decode b_T_gotPromise 93 = .ok (.iload_n 1, 1) := by decide +kernel
theorem d_T_gotPromise_94 : decode b_T_gotPromise 94 = .ok (.iaload, 1) := by decide +kernel
theorem d_T_gotPromise_95 : decode b_T_gotPromise 95 = .ok (.invokevirtual 108, 3) := by decide +kernel
theorem d_T_gotPromise_98 : decode b_T_gotPromise 98 = .ok (.imul, 1) := by decide +kernel
theorem d_T_gotPromise_99 : decode b_T_gotPromise 99 = .ok (.aload_n 0, 1) := by decide +kernel
theorem d_T_gotPromise_100 : decode b_T_gotPromise 100 = .ok (.getfield 65, 3) := by decide +kernel
theorem d_T_gotPromise_103 : decode b_T_gotPromise 103 = .ok (.if_icmp .le 45, 3) := by decide +kernel
theorem d_T_gotPromise_106 : decode b_T_gotPromise 106 = .ok (.aload_n 0, 1) := by decide +kernel
theorem d_T_gotPromise_107 : decode b_T_gotPromise 107 = .ok (.getfield 35, 3) := by decide +kernel
theorem d_T_gotPromise_110 : decode b_T_gotPromise 110 = .ok (.iload_n 1, 1) := by decide +kernel
theorem d_T_gotPromise_111 : decode b_T_gotPromise 111 = .ok (.iconst 2, 1) := by decide +kernel
theorem d_T_gotPromise_112 : decode b_T_gotPromise 112 = .ok (.iastore, 1) := by decide +kernel
theorem d_T_gotPromise_113 : decode b_T_gotPromise 113 = .ok (.aload_n 0, 1) := by decide +kernel
theorem d_T_gotPromise_114 : decode b_T_gotPromise 114 = .ok (.getfield 41, 3) := by decide +kernel
theorem d_T_gotPromise_117 : decode b_T_gotPromise 117 = .ok (.iload_n 1, 1) := by decide +kernel
theorem d_T_gotPromise_118 : decode b_T_gotPromise 118 = .ok (.iconst 0, 1) := by decide +kernel
theorem d_T_gotPromise_119 : decode b_T_gotPromise 119 = .ok (.iastore, 1) := by decide +kernel
theorem d_T_gotPromise_120 : decode b_T_gotPromise 120 = .ok (.aload_n 0, 1) := by decide +kernel
theorem d_T_gotPromise_121 : decode b_T_gotPromise 121 = .ok (.getfield 47, 3) := by decide +kernel
theorem d_T_gotPromise_124 : decode b_T_gotPromise 124 = .ok (.iload_n 1, 1) := by decide +kernel
theorem d_T_gotPromise_125 : decode b_T_gotPromise 125 = .ok (.iaload, 1) := by decide +kernel
theorem d_T_gotPromise_126 : decode b_T_gotPromise 126 = .ok (.ifCond .le 17, 3) := by decide +kernel
theorem d_T_gotPromise_129 : decode b_T_gotPromise 129 = .ok (.aload_n 0, 1) := by decide +kernel
theorem d_T_gotPromise_130 : decode b_T_gotPromise 130 = .ok (.iload_n 1, 1) := by decide +kernel
theorem d_T_gotPromise_131 : decode b_T_gotPromise 131 = .ok (.aload_n 0, 1) := by decide +kernel
theorem d_T_gotPromise_132 : decode b_T_gotPromise 132 = .ok (.getfield 47, 3) := by decide +kernel
theorem d_T_gotPromise_135 : decode b_T_gotPromise 135 = .ok (.iload_n 1, 1) := by decide +kernel
theorem d_T_gotPromise_136 : decode b_T_gotPromise 136 = .ok (.iaload, 1) := by decide +kernel
theorem d_T_gotPromise_137 : decode b_T_gotPromise 137 = .ok (.invokevirtual 100, 3) := by decide +kernel
theorem d_T_gotPromise_140 : decode b_T_gotPromise 140 = .ok (.goto 8, 3) := by decide +kernel
theorem d_T_gotPromise_143 : decode b_T_gotPromise 143 = .ok (.aload_n 0, 1) := by decide +kernel
theorem d_T_gotPromise_144 : decode b_T_gotPromise 144 = .ok (.iload_n 1, 1) := by decide +kernel
theorem d_T_gotPromise_145 : decode b_T_gotPromise 145 = .ok (.invokevirtual 112, 3) := by decide +kernel
theorem d_T_gotPromise_148 : decode b_T_gotPromise 148 = .ok (.return_, 1) := by decide +kernel
theorem d_T_gotAccept_0 : decode b_T_gotAccept 0 = .ok (.iload 4, 2) := by decide +kernel
theorem d_T_gotAccept_2 : decode b_T_gotAccept 2 = .ok (.aload_n 0, 1) := by decide +kernel
theorem d_T_gotAccept_3 : decode b_T_gotAccept 3 = .ok (.getfield 13, 3) := by decide +kernel
theorem d_T_gotAccept_6 : decode b_T_gotAccept 6 = .ok (.iload_n 1, 1) := by decide +kernel
theorem d_T_gotAccept_7 : decode b_T_gotAccept 7 = .ok (.iaload, 1) := by decide +kernel
theorem d_T_gotAccept_8 : decode b_T_gotAccept 8 = .ok (.if_icmp .gt 14, 3) := by decide +kernel
theorem d_T_gotAccept_11 : decode b_T_gotAccept 11 = .ok (.aload_n 0, 1) := by decide +kernel
theorem d_T_gotAccept_12 : decode b_T_gotAccept 12 = .ok (.iload_n 1, 1) := by decide +kernel
theorem d_T_gotAccept_13 : decode b_T_gotAccept 13 = .ok (.iload_n 2, 1) := by decide +kernel
theorem d_T_gotAccept_14 : decode b_T_gotAccept 14 = .ok (.iload 4, 2) := by decide +kernel
theorem d_T_gotAccept_16 : decode b_T_gotAccept 16 = .ok (.invokevirtual 104, 3) := by decide +kernel
theorem d_T_gotAccept_19 : decode b_T_gotAccept 19 = .ok (.goto 137, 3) := by decide +kernel
theorem d_T_gotAccept_22 : decode b_T_gotAccept 22 = .ok (.iload 4, 2) := by decide +kernel
theorem d_T_gotAccept_24 : decode b_T_gotAccept 24 = .ok (.aload_n 0, 1) := by decide +kernel
theorem d_T_gotAccept_25 : decode b_T_gotAccept 25 = .ok (.getfield 13, 3) := by decide +kernel
theorem d_T_gotAccept_28 : decode b_T_gotAccept 28 = .ok (.iload_n 1, 1) := by decide +kernel
theorem d_T_gotAccept_29 : decode b_T_gotAccept 29 = .ok (.iaload, 1) := by decide +kernel
theorem d_T_gotAccept_30 : decode b_T_gotAccept 30 = .ok (.iconst 1, 1) := by decide +kernel
theorem d_T_gotAccept_31 : decode b_T_gotAccept 31 = .ok (.iadd, 1) := by decide +kernel
theorem d_T_gotAccept_32 : decode b_T_gotAccept 32 = .ok (.if_icmp .le 25, 3) := by decide +kernel
theorem d_T_gotAccept_35 : decode b_T_gotAccept 35 = .ok (.aload_n 0, 1) := by decide +kernel
theorem d_T_gotAccept_36 : decode b_T_gotAccept 36 = .ok (.bipush 6, 2) := by decide +kernel
theorem d_T_gotAccept_38 : decode b_T_gotAccept 38 = .ok (.iload_n 1, 1) := by decide +kernel
theorem d_T_gotAccept_39 : decode b_T_gotAccept 39 = .ok (.iload_n 2, 1) := by decide +kernel
theorem d_T_gotAccept_40 : decode b_T_gotAccept 40 = .ok (.iconst 0, 1) := by decide +kernel
theorem d_T_gotAccept_41 : decode b_T_gotAccept 41 = .ok (.aload_n 0, 1) := by decide +kernel
theorem d_T_gotAccept_42 : decode b_T_gotAccept 42 = .ok (.getfield 13, 3) := by decide +kernel
theorem d_T_gotAccept_45 : decode b_T_gotAccept 45 = .ok (.iload_n 1, 1) := by decide +kernel
theorem d_T_gotAccept_46 : decode b_T_gotAccept 46 = .ok (.iaload, 1) := by decide +kernel
theorem d_T_gotAccept_47 : decode b_T_gotAccept 47 = .ok (.iconst 1, 1) := by decide +kernel
theorem d_T_gotAccept_48 : decode b_T_gotAccept 48 = .ok (.iadd, 1) := by decide +kernel
theorem d_T_gotAccept_49 : decode b_T_gotAccept 49 = .ok (.iconst 0, 1) := by decide +kernel
theorem d_T_gotAccept_50 : decode b_T_gotAccept 50 = .ok (.iconst 0, 1) := by decide +kernel
theorem d_T_gotAccept_51 : decode b_T_gotAccept 51 = .ok (.invokevirtual 88, 3) := by decide +kernel
theorem d_T_gotAccept_54 : decode b_T_gotAccept 54 = .ok (.goto 102, 3) := by decide +kernel
theorem d_T_gotAccept_57 : decode b_T_gotAccept 57 = .ok (.iload_n 3, 1) := by decide +kernel
theorem d_T_gotAccept_58 : decode b_T_gotAccept 58 = .ok (.aload_n 0, 1) := by decide +kernel
theorem d_T_gotAccept_59 : decode b_T_gotAccept 59 = .ok (.getfield 23, 3) := by decide +kernel
theorem d_T_gotAccept_62 : decode b_T_gotAccept 62 = .ok (.iload_n 1, 1) := by decide +kernel
theorem d_T_gotAccept_63 : decode b_T_gotAccept 63 = .ok (.iaload, 1) := by decide +kernel
theorem d_T_gotAccept_64 : decode b_T_gotAccept 64 = .ok (.if_icmp .lt 75, 3) := by decide +kernel
theorem d_T_gotAccept_67 : decode b_T_gotAccept 67 = .ok (.aload_n 0, 1) := by decide +kernel
theorem d_T_gotAccept_68 : decode b_T_gotAccept 68 = .ok (.getfield 23, 3) := by decide +kernel
theorem d_T_gotAccept_71 : decode b_T_gotAccept 71 = .ok (.iload_n 1, 1) := by decide +kernel
theorem d_T_gotAccept_72 : decode b_T_gotAccept 72 = .ok (.iload_n 3, 1) := by decide +kernel
theorem d_T_gotAccept_73 : decode b_T_gotAccept 73 = .ok (.iastore, 1) := by decide +kernel
theorem d_T_gotAccept_74 : decode b_T_gotAccept 74 = .ok (.aload_n 0, 1) := by decide +kernel
theorem d_T_gotAccept_75 : decode b_T_gotAccept 75 = .ok (.getfield 35, 3) := by decide +kernel
theorem d_T_gotAccept_78 : decode b_T_gotAccept 78 = .ok (.iload_n 1, 1) := by decide +kernel
theorem d_T_gotAccept_79 : decode b_T_gotAccept 79 = .ok (.iaload, 1) := by decide +kernel
theorem d_T_gotAccept_80 : decode b_T_gotAccept 80 = .ok (.iconst 1, 1) := by decide +kernel
theorem d_T_gotAccept_81 : decode b_T_gotAccept 81 = .ok (.if_icmp .eq 23, 3) := by decide +kernel
theorem d_T_gotAccept_84 : decode b_T_gotAccept 84 = .ok (.aload_n 0, 1) := by decide +kernel
theorem d_T_gotAccept_85 : decode b_T_gotAccept 85 = .ok (.getfield 35, 3) := by decide +kernel
theorem d_T_gotAccept_88 : decode b_T_gotAccept 88 = .ok (.iload_n 1, 1) := by decide +kernel
theorem d_T_gotAccept_89 : decode b_T_gotAccept 89 = .ok (.iaload, 1) := by decide +kernel
theorem d_T_gotAccept_90 : decode b_T_gotAccept 90 = .ok (.iconst 2, 1) := by decide +kernel
theorem d_T_gotAccept_91 : decode b_T_gotAccept 91 = .ok (.if_icmp .ne 18, 3) := by decide +kernel
theorem d_T_gotAccept_94 : decode b_T_gotAccept 94 = .ok (.aload_n 0, 1) := by decide +kernel
theorem d_T_gotAccept_95 : decode b_T_gotAccept 95 = .ok (.getfield 38, 3) := by decide +kernel
theorem d_T_gotAccept_98 : decode b_T_gotAccept 98 = .ok (.iload_n 1, 1) := by decide +kernel
theorem d_T_gotAccept_99 : decode b_T_gotAccept 99 = .ok (.iaload, 1) := by decide +kernel
theorem d_T_gotAccept_100 : decode b_T_gotAccept 100 = .ok (.iload_n 3, 1) := by decide +kernel
theorem d_T_gotAccept_101 : decode b_T_gotAccept 101 = .ok (.if_icmp .eq 8, 3) := by decide +kernel
theorem d_T_gotAccept_104 : decode b_T_gotAccept 104 = .ok (.aload_n 0, 1) := by decide +kernel
theorem d_T_gotAccept_105 : decode b_T_gotAccept 105 = .ok (.iload_n 1, 1) := by decide +kernel
theorem d_T_gotAccept_106 : decode b_T_gotAccept 106 = .ok (.invokevirtual 92, 3) := by decide +kernel
theorem d_T_gotAccept_109 : decode b_T_gotAccept 109 = .ok (.aload_n 0, 1) := by decide +kernel
theorem d_T_gotAccept_110 : decode b_T_gotAccept 110 = .ok (.getfield 29, 3) := by decide +kernel
theorem d_T_gotAccept_113 : decode b_T_gotAccept 113 = .ok (.iload_n 1, 1) := by decide +kernel
theorem d_T_gotAccept_114 : decode b_T_gotAccept 114 = .ok (.iload 5, 2) := by decide +kernel
theorem d_T_gotAccept_116 : decode b_T_gotAccept 116 = .ok (.iastore, 1) := by decide +kernel
theorem d_T_gotAccept_117 : decode b_T_gotAccept 117 = .ok (.aload_n 0, 1) := by decide +kernel
theorem d_T_gotAccept_118 : decode b_T_gotAccept 118 = .ok (.getfield 26, 3) := by decide +kernel
theorem d_T_gotAccept_121 : decode b_T_gotAccept 121 = .ok (.iload_n 1, 1) := by decide +kernel
theorem d_T_gotAccept_122 : decode b_T_gotAccept 122 = .ok (.iload_n 3, 1) := by decide +kernel
theorem d_T_gotAccept_123 : decode b_T_gotAccept 123 = .ok (.iastore, 1) := by decide +kernel
theorem d_T_gotAccept_124 : decode b_T_gotAccept 124 = .ok (.aload_n 0, 1) := by decide +kernel
theorem d_T_gotAccept_125 : decode b_T_gotAccept 125 = .ok (.iconst 4, 1) := by decide +kernel
theorem d_T_gotAccept_126 : decode b_T_gotAccept 126 = .ok (.iload_n 1, 1) := by decide +kernel
theorem d_T_gotAccept_127 : decode b_T_gotAccept 127 = .ok (.iload_n 2, 1) := by decide +kernel
theorem d_T_gotAccept_128 : decode b_T_gotAccept 128 = .ok (.iload_n 3, 1) := by decide +kernel
