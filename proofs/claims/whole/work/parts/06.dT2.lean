theorem d_T_gotAccept_129 : decode b_T_gotAccept 129 = .ok (.iload 4, 2) := by decide +kernel
theorem d_T_gotAccept_131 : decode b_T_gotAccept 131 = .ok (.iconst 0, 1) := by decide +kernel
theorem d_T_gotAccept_132 : decode b_T_gotAccept 132 = .ok (.iconst 0, 1) := by decide +kernel
theorem d_T_gotAccept_133 : decode b_T_gotAccept 133 = .ok (.invokevirtual 88, 3) := by decide +kernel
theorem d_T_gotAccept_136 : decode b_T_gotAccept 136 = .ok (.goto 20, 3) := by decide +kernel
theorem d_T_gotAccept_139 : decode b_T_gotAccept 139 = .ok (.aload_n 0, 1) := by decide +kernel
theorem d_T_gotAccept_140 : decode b_T_gotAccept 140 = .ok (.bipush 7, 2) := by decide +kernel
theorem d_T_gotAccept_142 : decode b_T_gotAccept 142 = .ok (.iload_n 1, 1) := by decide +kernel
theorem d_T_gotAccept_143 : decode b_T_gotAccept 143 = .ok (.iload_n 2, 1) := by decide +kernel
theorem d_T_gotAccept_144 : decode b_T_gotAccept 144 = .ok (.aload_n 0, 1) := by decide +kernel
theorem d_T_gotAccept_145 : decode b_T_gotAccept 145 = .ok (.getfield 23, 3) := by decide +kernel
theorem d_T_gotAccept_148 : decode b_T_gotAccept 148 = .ok (.iload_n 1, 1) := by decide +kernel
theorem d_T_gotAccept_149 : decode b_T_gotAccept 149 = .ok (.iaload, 1) := by decide +kernel
theorem d_T_gotAccept_150 : decode b_T_gotAccept 150 = .ok (.iconst 0, 1) := by decide +kernel
theorem d_T_gotAccept_151 : decode b_T_gotAccept 151 = .ok (.iconst 0, 1) := by decide +kernel
theorem d_T_gotAccept_152 : decode b_T_gotAccept 152 = .ok (.iconst 0, 1) := by decide +kernel
theorem d_T_gotAccept_153 : decode b_T_gotAccept 153 = .ok (.invokevirtual 88, 3) := by decide +kernel
theorem d_T_gotAccept_156 : decode b_T_gotAccept 156 = .ok (.return_, 1) := by decide +kernel
theorem d_T_gotAccepted_0 : decode b_T_gotAccepted 0 = .ok (.aload_n 0, 1) := by decide +kernel
theorem d_T_gotAccepted_1 : decode b_T_gotAccepted 1 = .ok (.getfield 35, 3) := by decide +kernel
theorem d_T_gotAccepted_4 : decode b_T_gotAccepted 4 = .ok (.iload_n 1, 1) := by decide +kernel
theorem d_T_gotAccepted_5 : decode b_T_gotAccepted 5 = .ok (.iaload, 1) := by decide +kernel
theorem d_T_gotAccepted_6 : decode b_T_gotAccepted 6 = .ok (.iconst 2, 1) := by decide +kernel
theorem d_T_gotAccepted_7 : decode b_T_gotAccepted 7 = .ok (.if_icmp .ne 49, 3) := by decide +kernel
theorem d_T_gotAccepted_10 : decode b_T_gotAccepted 10 = .ok (.aload_n 0, 1) := by decide +kernel
theorem d_T_gotAccepted_11 : decode b_T_gotAccepted 11 = .ok (.getfield 38, 3) := by decide +kernel
theorem d_T_gotAccepted_14 : decode b_T_gotAccepted 14 = .ok (.iload_n 1, 1) := by decide +kernel
theorem d_T_gotAccepted_15 : decode b_T_gotAccepted 15 = .ok (.iaload, 1) := by decide +kernel
theorem d_T_gotAccepted_16 : decode b_T_gotAccepted 16 = .ok (.iload_n 3, 1) := by decide +kernel
theorem d_T_gotAccepted_17 : decode b_T_gotAccepted 17 = .ok (.if_icmp .ne 39, 3) := by decide +kernel
theorem d_T_gotAccepted_20 : decode b_T_gotAccepted 20 = .ok (.aload_n 0, 1) := by decide +kernel
theorem d_T_gotAccepted_21 : decode b_T_gotAccepted 21 = .ok (.getfield 44, 3) := by decide +kernel
theorem d_T_gotAccepted_24 : decode b_T_gotAccepted 24 = .ok (.iload_n 1, 1) := by decide +kernel
theorem d_T_gotAccepted_25 : decode b_T_gotAccepted 25 = .ok (.iaload, 1) := by decide +kernel
theorem d_T_gotAccepted_26 : decode b_T_gotAccepted 26 = .ok (.ifCond .eq 30, 3) := by decide +kernel
theorem d_T_gotAccepted_29 : decode b_T_gotAccepted 29 = .ok (.iload 4, 2) := by decide +kernel
theorem d_T_gotAccepted_31 : decode b_T_gotAccepted 31 = .ok (.aload_n 0, 1) := by decide +kernel
theorem d_T_gotAccepted_32 : decode b_T_gotAccepted 32 = .ok (.getfield 13, 3) := by decide +kernel
theorem d_T_gotAccepted_35 : decode b_T_gotAccepted 35 = .ok (.iload_n 1, 1) := by decide +kernel
theorem d_T_gotAccepted_36 : decode b_T_gotAccepted 36 = .ok (.iaload, 1) := by decide +kernel
theorem d_T_gotAccepted_37 : decode b_T_gotAccepted 37 = .ok (.iconst 1, 1) := by decide +kernel
theorem d_T_gotAccepted_38 : decode b_T_gotAccepted 38 = .ok (.iadd, 1) := by decide +kernel
theorem d_T_gotAccepted_39 : decode b_T_gotAccepted 39 = .ok (.if_icmp .ne 17, 3) := by decide +kernel
theorem d_T_gotAccepted_42 : decode b_T_gotAccepted 42 = .ok (.aload_n 0, 1) := by decide +kernel
theorem d_T_gotAccepted_43 : decode b_T_gotAccepted 43 = .ok (.getfield 41, 3) := by decide +kernel
theorem d_T_gotAccepted_46 : decode b_T_gotAccepted 46 = .ok (.iload_n 1, 1) := by decide +kernel
theorem d_T_gotAccepted_47 : decode b_T_gotAccepted 47 = .ok (.iaload, 1) := by decide +kernel
theorem d_T_gotAccepted_48 : decode b_T_gotAccepted 48 = .ok (.iload_n 2, 1) := by decide +kernel
theorem d_T_gotAccepted_49 : decode b_T_gotAccepted 49 = .ok (.ishr, 1) := by decide +kernel
theorem d_T_gotAccepted_50 : decode b_T_gotAccepted 50 = .ok (.iconst 1, 1) := by decide +kernel
theorem d_T_gotAccepted_51 : decode b_T_gotAccepted 51 = .ok (.iand, 1) := by decide +kernel
theorem d_T_gotAccepted_52 : decode b_T_gotAccepted 52 = .ok (.iconst 1, 1) := by decide +kernel
theorem d_T_gotAccepted_53 : decode b_T_gotAccepted 53 = .ok (.if_icmp .ne 4, 3) := by decide +kernel
theorem d_T_gotAccepted_56 : decode b_T_gotAccepted 56 = .ok (.return_, 1) := by decide +kernel
theorem d_T_gotAccepted_57 : decode b_T_gotAccepted 57 = .ok (.aload_n 0, 1) := by decide +kernel
theorem d_T_gotAccepted_58 : decode b_T_gotAccepted 58 = .ok (.getfield 41, 3) := by decide +kernel
theorem d_T_gotAccepted_61 : decode b_T_gotAccepted 61 = .ok (.iload_n 1, 1) := by decide +kernel
theorem d_T_gotAccepted_62 : decode b_T_gotAccepted 62 = .ok (.dup2, 1) := by decide +kernel
theorem d_T_gotAccepted_63 : decode b_T_gotAccepted 63 = .ok (.iaload, 1) := by decide +kernel
theorem d_T_gotAccepted_64 : decode b_T_gotAccepted 64 = .ok (.iconst 1, 1) := by decide +kernel
theorem d_T_gotAccepted_65 : decode b_T_gotAccepted 65 = .ok (.iload_n 2, 1) := by decide +kernel
theorem d_T_gotAccepted_66 : decode b_T_gotAccepted 66 = .ok (.ishl, 1) := by decide +kernel
theorem d_T_gotAccepted_67 : decode b_T_gotAccepted 67 = .ok (.ior, 1) := by decide +kernel
theorem d_T_gotAccepted_68 : decode b_T_gotAccepted 68 = .ok (.iastore, 1) := by decide +kernel
theorem d_T_gotAccepted_69 : decode b_T_gotAccepted 69 = .ok (.iconst 2, 1) := by decide +kernel
theorem d_T_gotAccepted_70 : decode b_T_gotAccepted 70 = .ok (.aload_n 0, 1) := by decide +kernel
theorem d_T_gotAccepted_71 : decode b_T_gotAccepted 71 = .ok (.aload_n 0, 1) := by decide +kernel
theorem d_T_gotAccepted_72 : decode b_T_gotAccepted 72 = .ok (.getfield 41, 3) := by decide +kernel
theorem d_T_gotAccepted_75 : decode b_T_gotAccepted 75 = .ok (.iload_n 1, 1) := by decide +kernel
theorem d_T_gotAccepted_76 : decode b_T_gotAccepted 76 = .ok (.iaload, 1) := by decide +kernel
theorem d_T_gotAccepted_77 : decode b_T_gotAccepted 77 = .ok (.invokevirtual 108, 3) := by decide +kernel
theorem d_T_gotAccepted_80 : decode b_T_gotAccepted 80 = .ok (.imul, 1) := by decide +kernel
theorem d_T_gotAccepted_81 : decode b_T_gotAccepted 81 = .ok (.aload_n 0, 1) := by decide +kernel
theorem d_T_gotAccepted_82 : decode b_T_gotAccepted 82 = .ok (.getfield 65, 3) := by decide +kernel
theorem d_T_gotAccepted_85 : decode b_T_gotAccepted 85 = .ok (.if_icmp .le 34, 3) := by decide +kernel
theorem d_T_gotAccepted_88 : decode b_T_gotAccepted 88 = .ok (.aload_n 0, 1) := by decide +kernel
theorem d_T_gotAccepted_89 : decode b_T_gotAccepted 89 = .ok (.getfield 44, 3) := by decide +kernel
theorem d_T_gotAccepted_92 : decode b_T_gotAccepted 92 = .ok (.iload_n 1, 1) := by decide +kernel
theorem d_T_gotAccepted_93 : decode b_T_gotAccepted 93 = .ok (.iaload, 1) := by decide +kernel
theorem d_T_gotAccepted_94 : decode b_T_gotAccepted 94 = .ok (.istore 5, 2) := by decide +kernel
theorem d_T_gotAccepted_96 : decode b_T_gotAccepted 96 = .ok (.aload_n 0, 1) := by decide +kernel
theorem d_T_gotAccepted_97 : decode b_T_gotAccepted 97 = .ok (.iconst 5, 1) := by decide +kernel
theorem d_T_gotAccepted_98 : decode b_T_gotAccepted 98 = .ok (.iload_n 1, 1) := by decide +kernel
theorem d_T_gotAccepted_99 : decode b_T_gotAccepted 99 = .ok (.iconst 0, 1) := by decide +kernel
theorem d_T_gotAccepted_100 : decode b_T_gotAccepted 100 = .ok (.iload 4, 2) := by decide +kernel
theorem d_T_gotAccepted_102 : decode b_T_gotAccepted 102 = .ok (.iload 5, 2) := by decide +kernel
theorem d_T_gotAccepted_104 : decode b_T_gotAccepted 104 = .ok (.invokevirtual 96, 3) := by decide +kernel
theorem d_T_gotAccepted_107 : decode b_T_gotAccepted 107 = .ok (.aload_n 0, 1) := by decide +kernel
theorem d_T_gotAccepted_108 : decode b_T_gotAccepted 108 = .ok (.iload_n 1, 1) := by decide +kernel
theorem d_T_gotAccepted_109 : decode b_T_gotAccepted 109 = .ok (.iload 5, 2) := by decide +kernel
theorem d_T_gotAccepted_111 : decode b_T_gotAccepted 111 = .ok (.invokevirtual 115, 3) := by decide +kernel
theorem d_T_gotAccepted_114 : decode b_T_gotAccepted 114 = .ok (.aload_n 0, 1) := by decide +kernel
theorem d_T_gotAccepted_115 : decode b_T_gotAccepted 115 = .ok (.iload_n 1, 1) := by decide +kernel
theorem d_T_gotAccepted_116 : decode b_T_gotAccepted 116 = .ok (.invokevirtual 112, 3) := by decide +kernel
theorem d_T_gotAccepted_119 : decode b_T_gotAccepted 119 = .ok (.return_, 1) := by decide +kernel
theorem d_T_gotState_0 : decode b_T_gotState 0 = .ok (.iload_n 2, 1) := by decide +kernel
theorem d_T_gotState_1 : decode b_T_gotState 1 = .ok (.aload_n 0, 1) := by decide +kernel
theorem d_T_gotState_2 : decode b_T_gotState 2 = .ok (.getfield 13, 3) := by decide +kernel
theorem d_T_gotState_5 : decode b_T_gotState 5 = .ok (.iload_n 1, 1) := by decide +kernel
theorem d_T_gotState_6 : decode b_T_gotState 6 = .ok (.iaload, 1) := by decide +kernel
theorem d_T_gotState_7 : decode b_T_gotState 7 = .ok (.if_icmp .le 43, 3) := by decide +kernel
theorem d_T_gotState_10 : decode b_T_gotState 10 = .ok (.aload_n 0, 1) := by decide +kernel
theorem d_T_gotState_11 : decode b_T_gotState 11 = .ok (.getfield 13, 3) := by decide +kernel
theorem d_T_gotState_14 : decode b_T_gotState 14 = .ok (.iload_n 1, 1) := by decide +kernel
theorem d_T_gotState_15 : decode b_T_gotState 15 = .ok (.iload_n 2, 1) := by decide +kernel
theorem d_T_gotState_16 : decode b_T_gotState 16 = .ok (.iastore, 1) := by decide +kernel
theorem d_T_gotState_17 : decode b_T_gotState 17 = .ok (.aload_n 0, 1) := by decide +kernel
theorem d_T_gotState_18 : decode b_T_gotState 18 = .ok (.getfield 17, 3) := by decide +kernel
theorem d_T_gotState_21 : decode b_T_gotState 21 = .ok (.iload_n 1, 1) := by decide +kernel
theorem d_T_gotState_22 : decode b_T_gotState 22 = .ok (.iload_n 3, 1) := by decide +kernel
theorem d_T_gotState_23 : decode b_T_gotState 23 = .ok (.iastore, 1) := by decide +kernel
theorem d_T_gotState_24 : decode b_T_gotState 24 = .ok (.aload_n 0, 1) := by decide +kernel
theorem d_T_gotState_25 : decode b_T_gotState 25 = .ok (.getfield 20, 3) := by decide +kernel
theorem d_T_gotState_28 : decode b_T_gotState 28 = .ok (.iload_n 1, 1) := by decide +kernel
theorem d_T_gotState_29 : decode b_T_gotState 29 = .ok (.iload_n 2, 1) := by decide +kernel
theorem d_T_gotState_30 : decode b_T_gotState 30 = .ok (.iastore, 1) := by decide +kernel
theorem d_T_gotState_31 : decode b_T_gotState 31 = .ok (.aload_n 0, 1) := by decide +kernel
theorem d_T_gotState_32 : decode b_T_gotState 32 = .ok (.getfield 29, 3) := by decide +kernel
theorem d_T_gotState_35 : decode b_T_gotState 35 = .ok (.iload_n 1, 1) := by decide +kernel
theorem d_T_gotState_36 : decode b_T_gotState 36 = .ok (.iconst 0, 1) := by decide +kernel
theorem d_T_gotState_37 : decode b_T_gotState 37 = .ok (.iastore, 1) := by decide +kernel
theorem d_T_gotState_38 : decode b_T_gotState 38 = .ok (.aload_n 0, 1) := by decide +kernel
theorem d_T_gotState_39 : decode b_T_gotState 39 = .ok (.getfield 26, 3) := by decide +kernel
theorem d_T_gotState_42 : decode b_T_gotState 42 = .ok (.iload_n 1, 1) := by decide +kernel
theorem d_T_gotState_43 : decode b_T_gotState 43 = .ok (.iconst 0, 1) := by decide +kernel
theorem d_T_gotState_44 : decode b_T_gotState 44 = .ok (.iastore, 1) := by decide +kernel
theorem d_T_gotState_45 : decode b_T_gotState 45 = .ok (.aload_n 0, 1) := by decide +kernel
theorem d_T_gotState_46 : decode b_T_gotState 46 = .ok (.iload_n 1, 1) := by decide +kernel
theorem d_T_gotState_47 : decode b_T_gotState 47 = .ok (.invokevirtual 92, 3) := by decide +kernel
theorem d_T_gotState_50 : decode b_T_gotState 50 = .ok (.return_, 1) := by decide +kernel
theorem d_T_comes_0 : decode b_T_comes 0 = .ok (.aload_n 0, 1) := by decide +kernel
theorem d_T_comes_1 : decode b_T_comes 1 = .ok (.getfield 53, 3) := by decide +kernel
theorem d_T_comes_4 : decode b_T_comes 4 = .ok (.iload_n 3, 1) := by decide +kernel
theorem d_T_comes_5 : decode b_T_comes 5 = .ok (.iload 4, 2) := by decide +kernel
theorem d_T_comes_7 : decode b_T_comes 7 = .ok (.aload_n 0, 1) := by decide +kernel
theorem d_T_comes_8 : decode b_T_comes 8 = .ok (.getfield 53, 3) := by decide +kernel
theorem d_T_comes_11 : decode b_T_comes 11 = .ok (.iload_n 3, 1) := by decide +kernel
theorem d_T_comes_12 : decode b_T_comes 12 = .ok (.iaload, 1) := by decide +kernel
theorem d_T_comes_13 : decode b_T_comes 13 = .ok (.if_icmp .le 8, 3) := by decide +kernel
theorem d_T_comes_16 : decode b_T_comes 16 = .ok (.iload 4, 2) := by decide +kernel
theorem d_T_comes_18 : decode b_T_comes 18 = .ok (.goto 9, 3) := by decide +kernel
theorem d_T_comes_21 : decode b_T_comes 21 = .ok (.aload_n 0, 1) := by decide +kernel
theorem d_T_comes_22 : decode b_T_comes 22 = .ok (.getfield 53, 3) := by decide +kernel
theorem d_T_comes_25 : decode b_T_comes 25 = .ok (.iload_n 3, 1) := by decide +kernel
theorem d_T_comes_26 : decode b_T_comes 26 = .ok (.iaload, 1) := by decide +kernel
theorem d_T_comes_27 : decode b_T_comes 27 = .ok (.iastore, 1) := by decide +kernel
theorem d_T_comes_28 : decode b_T_comes 28 = .ok (.iload_n 1, 1) := by decide +kernel
theorem d_T_comes_29 : decode b_T_comes 29 = .ok (.tableswitch 209 1 7 #[43, 56, 73, 88, 101, 159, 181], 43) := by decide +kernel
theorem d_T_comes_72 : decode b_T_comes 72 = .ok (.aload_n 0, 1) := by decide +kernel
theorem d_T_comes_73 : decode b_T_comes 73 = .ok (.iload_n 3, 1) := by decide +kernel
theorem d_T_comes_74 : decode b_T_comes 74 = .ok (.iload_n 2, 1) := by decide +kernel
theorem d_T_comes_75 : decode b_T_comes 75 = .ok (.iload 4, 2) := by decide +kernel
theorem d_T_comes_77 : decode b_T_comes 77 = .ok (.iload 5, 2) := by decide +kernel
theorem d_T_comes_79 : decode b_T_comes 79 = .ok (.invokevirtual 118, 3) := by decide +kernel
theorem d_T_comes_82 : decode b_T_comes 82 = .ok (.goto 165, 3) := by decide +kernel
theorem d_T_comes_85 : decode b_T_comes 85 = .ok (.aload_n 0, 1) := by decide +kernel
theorem d_T_comes_86 : decode b_T_comes 86 = .ok (.iload_n 3, 1) := by decide +kernel
theorem d_T_comes_87 : decode b_T_comes 87 = .ok (.iload_n 2, 1) := by decide +kernel
theorem d_T_comes_88 : decode b_T_comes 88 = .ok (.iload 4, 2) := by decide +kernel
theorem d_T_comes_90 : decode b_T_comes 90 = .ok (.iload 5, 2) := by decide +kernel
theorem d_T_comes_92 : decode b_T_comes 92 = .ok (.iload 6, 2) := by decide +kernel
theorem d_T_comes_94 : decode b_T_comes 94 = .ok (.iload 7, 2) := by decide +kernel
theorem d_T_comes_96 : decode b_T_comes 96 = .ok (.invokevirtual 122, 3) := by decide +kernel
theorem d_T_comes_99 : decode b_T_comes 99 = .ok (.goto 148, 3) := by decide +kernel
theorem d_T_comes_102 : decode b_T_comes 102 = .ok (.aload_n 0, 1) := by decide +kernel
theorem d_T_comes_103 : decode b_T_comes 103 = .ok (.iload_n 3, 1) := by decide +kernel
theorem d_T_comes_104 : decode b_T_comes 104 = .ok (.iload_n 2, 1) := by decide +kernel
theorem d_T_comes_105 : decode b_T_comes 105 = .ok (.iload 4, 2) := by decide +kernel
theorem d_T_comes_107 : decode b_T_comes 107 = .ok (.iload 5, 2) := by decide +kernel
theorem d_T_comes_109 : decode b_T_comes 109 = .ok (.iload 6, 2) := by decide +kernel
theorem d_T_comes_111 : decode b_T_comes 111 = .ok (.invokevirtual 126, 3) := by decide +kernel
theorem d_T_comes_114 : decode b_T_comes 114 = .ok (.goto 133, 3) := by decide +kernel
theorem d_T_comes_117 : decode b_T_comes 117 = .ok (.aload_n 0, 1) := by decide +kernel
theorem d_T_comes_118 : decode b_T_comes 118 = .ok (.iload_n 3, 1) := by decide +kernel
theorem d_T_comes_119 : decode b_T_comes 119 = .ok (.iload_n 2, 1) := by decide +kernel
theorem d_T_comes_120 : decode b_T_comes 120 = .ok (.iload 4, 2) := by decide +kernel
theorem d_T_comes_122 : decode b_T_comes 122 = .ok (.iload 5, 2) := by decide +kernel
theorem d_T_comes_124 : decode b_T_comes 124 = .ok (.invokevirtual 129, 3) := by decide +kernel
theorem d_T_comes_127 : decode b_T_comes 127 = .ok (.goto 120, 3) := by decide +kernel
theorem d_T_comes_130 : decode b_T_comes 130 = .ok (.iload 5, 2) := by decide +kernel
theorem d_T_comes_132 : decode b_T_comes 132 = .ok (.aload_n 0, 1) := by decide +kernel
theorem d_T_comes_133 : decode b_T_comes 133 = .ok (.getfield 13, 3) := by decide +kernel
theorem d_T_comes_136 : decode b_T_comes 136 = .ok (.iload_n 3, 1) := by decide +kernel
theorem d_T_comes_137 : decode b_T_comes 137 = .ok (.iaload, 1) := by decide +kernel
theorem d_T_comes_138 : decode b_T_comes 138 = .ok (.iconst 1, 1) := by decide +kernel
theorem d_T_comes_139 : decode b_T_comes 139 = .ok (.iadd, 1) := by decide +kernel
theorem d_T_comes_140 : decode b_T_comes 140 = .ok (.if_icmp .ne 13, 3) := by decide +kernel
theorem d_T_comes_143 : decode b_T_comes 143 = .ok (.aload_n 0, 1) := by decide +kernel
theorem d_T_comes_144 : decode b_T_comes 144 = .ok (.iload_n 3, 1) := by decide +kernel
theorem d_T_comes_145 : decode b_T_comes 145 = .ok (.iload 6, 2) := by decide +kernel
theorem d_T_comes_147 : decode b_T_comes 147 = .ok (.invokevirtual 115, 3) := by decide +kernel
theorem d_T_comes_150 : decode b_T_comes 150 = .ok (.goto 97, 3) := by decide +kernel
theorem d_T_comes_153 : decode b_T_comes 153 = .ok (.iload 5, 2) := by decide +kernel
theorem d_T_comes_155 : decode b_T_comes 155 = .ok (.aload_n 0, 1) := by decide +kernel
theorem d_T_comes_156 : decode b_T_comes 156 = .ok (.getfield 13, 3) := by decide +kernel
theorem d_T_comes_159 : decode b_T_comes 159 = .ok (.iload_n 3, 1) := by decide +kernel
theorem d_T_comes_160 : decode b_T_comes 160 = .ok (.iaload, 1) := by decide +kernel
theorem d_T_comes_161 : decode b_T_comes 161 = .ok (.iconst 1, 1) := by decide +kernel
theorem d_T_comes_162 : decode b_T_comes 162 = .ok (.iadd, 1) := by decide +kernel
theorem d_T_comes_163 : decode b_T_comes 163 = .ok (.if_icmp .le 84, 3) := by decide +kernel
theorem d_T_comes_166 : decode b_T_comes 166 = .ok (.aload_n 0, 1) := by decide +kernel
theorem d_T_comes_167 : decode b_T_comes 167 = .ok (.bipush 6, 2) := by decide +kernel
theorem d_T_comes_169 : decode b_T_comes 169 = .ok (.iload_n 3, 1) := by decide +kernel
theorem d_T_comes_170 : decode b_T_comes 170 = .ok (.iload_n 2, 1) := by decide +kernel
theorem d_T_comes_171 : decode b_T_comes 171 = .ok (.iconst 0, 1) := by decide +kernel
theorem d_T_comes_172 : decode b_T_comes 172 = .ok (.aload_n 0, 1) := by decide +kernel
theorem d_T_comes_173 : decode b_T_comes 173 = .ok (.getfield 13, 3) := by decide +kernel
theorem d_T_comes_176 : decode b_T_comes 176 = .ok (.iload_n 3, 1) := by decide +kernel
theorem d_T_comes_177 : decode b_T_comes 177 = .ok (.iaload, 1) := by decide +kernel
theorem d_T_comes_178 : decode b_T_comes 178 = .ok (.iconst 1, 1) := by decide +kernel
theorem d_T_comes_179 : decode b_T_comes 179 = .ok (.iadd, 1) := by decide +kernel
theorem d_T_comes_180 : decode b_T_comes 180 = .ok (.iconst 0, 1) := by decide +kernel
theorem d_T_comes_181 : decode b_T_comes 181 = .ok (.iconst 0, 1) := by decide +kernel
theorem d_T_comes_182 : decode b_T_comes 182 = .ok (.invokevirtual 88, 3) := by decide +kernel
theorem d_T_comes_185 : decode b_T_comes 185 = .ok (.goto 62, 3) := by decide +kernel
theorem d_T_comes_188 : decode b_T_comes 188 = .ok (.iload 5, 2) := by decide +kernel
theorem d_T_comes_190 : decode b_T_comes 190 = .ok (.aload_n 0, 1) := by decide +kernel
theorem d_T_comes_191 : decode b_T_comes 191 = .ok (.getfield 13, 3) := by decide +kernel
theorem d_T_comes_194 : decode b_T_comes 194 = .ok (.iload_n 3, 1) := by decide +kernel
theorem d_T_comes_195 : decode b_T_comes 195 = .ok (.iaload, 1) := by decide +kernel
theorem d_T_comes_196 : decode b_T_comes 196 = .ok (.if_icmp .gt 51, 3) := by decide +kernel
theorem d_T_comes_199 : decode b_T_comes 199 = .ok (.aload_n 0, 1) := by decide +kernel
theorem d_T_comes_200 : decode b_T_comes 200 = .ok (.iload_n 3, 1) := by decide +kernel
theorem d_T_comes_201 : decode b_T_comes 201 = .ok (.iload_n 2, 1) := by decide +kernel
theorem d_T_comes_202 : decode b_T_comes 202 = .ok (.iload 5, 2) := by decide +kernel
theorem d_T_comes_204 : decode b_T_comes 204 = .ok (.invokevirtual 104, 3) := by decide +kernel
theorem d_T_comes_207 : decode b_T_comes 207 = .ok (.goto 40, 3) := by decide +kernel
theorem d_T_comes_210 : decode b_T_comes 210 = .ok (.aload_n 0, 1) := by decide +kernel
theorem d_T_comes_211 : decode b_T_comes 211 = .ok (.getfield 35, 3) := by decide +kernel
theorem d_T_comes_214 : decode b_T_comes 214 = .ok (.iload_n 3, 1) := by decide +kernel
theorem d_T_comes_215 : decode b_T_comes 215 = .ok (.iaload, 1) := by decide +kernel
theorem d_T_comes_216 : decode b_T_comes 216 = .ok (.ifCond .le 31, 3) := by decide +kernel
theorem d_T_comes_219 : decode b_T_comes 219 = .ok (.aload_n 0, 1) := by decide +kernel
theorem d_T_comes_220 : decode b_T_comes 220 = .ok (.getfield 38, 3) := by decide +kernel
theorem d_T_comes_223 : decode b_T_comes 223 = .ok (.iload_n 3, 1) := by decide +kernel
theorem d_T_comes_224 : decode b_T_comes 224 = .ok (.iaload, 1) := by decide +kernel
theorem d_T_comes_225 : decode b_T_comes 225 = .ok (.iload 4, 2) := by decide +kernel
theorem d_T_comes_227 : decode b_T_comes 227 = .ok (.if_icmp .ge 20, 3) := by decide +kernel
theorem d_T_comes_230 : decode b_T_comes 230 = .ok (.aload_n 0, 1) := by decide +kernel
theorem d_T_comes_231 : decode b_T_comes 231 = .ok (.iload_n 3, 1) := by decide +kernel
theorem d_T_comes_232 : decode b_T_comes 232 = .ok (.invokevirtual 92, 3) := by decide +kernel
theorem d_T_comes_235 : decode b_T_comes 235 = .ok (.goto 12, 3) := by decide +kernel
theorem d_T_comes_238 : decode b_T_comes 238 = .ok (.aload_n 0, 1) := by decide +kernel
theorem d_T_comes_239 : decode b_T_comes 239 = .ok (.iload_n 3, 1) := by decide +kernel
theorem d_T_comes_240 : decode b_T_comes 240 = .ok (.iload 5, 2) := by decide +kernel
theorem d_T_comes_242 : decode b_T_comes 242 = .ok (.iload 6, 2) := by decide +kernel
theorem d_T_comes_244 : decode b_T_comes 244 = .ok (.invokevirtual 132, 3) := by decide +kernel
theorem d_T_comes_247 : decode b_T_comes 247 = .ok (.return_, 1) := by decide +kernel
theorem d_T_request_0 : decode b_T_request 0 = .ok (.aload_n 0, 1) := by decide +kernel
theorem d_T_request_1 : decode b_T_request 1 = .ok (.iconst 0, 1) := by decide +kernel
theorem d_T_request_2 : decode b_T_request 2 = .ok (.putfield 72, 3) := by decide +kernel
theorem d_T_request_5 : decode b_T_request 5 = .ok (.aload_n 0, 1) := by decide +kernel
theorem d_T_request_6 : decode b_T_request 6 = .ok (.iload_n 1, 1) := by decide +kernel
theorem d_T_request_7 : decode b_T_request 7 = .ok (.invokevirtual 135, 3) := by decide +kernel
theorem d_T_request_10 : decode b_T_request 10 = .ok (.ifCond .eq 31, 3) := by decide +kernel
theorem d_T_request_13 : decode b_T_request 13 = .ok (.aload_n 0, 1) := by decide +kernel
theorem d_T_request_14 : decode b_T_request 14 = .ok (.getfield 59, 3) := by decide +kernel
theorem d_T_request_17 : decode b_T_request 17 = .ok (.aload_n 0, 1) := by decide +kernel
theorem d_T_request_18 : decode b_T_request 18 = .ok (.iload_n 1, 1) := by decide +kernel
theorem d_T_request_19 : decode b_T_request 19 = .ok (.invokevirtual 135, 3) := by decide +kernel
theorem d_T_request_22 : decode b_T_request 22 = .ok (.ifCond .eq 7, 3) := by decide +kernel
theorem d_T_request_25 : decode b_T_request 25 = .ok (.iload_n 1, 1) := by decide +kernel
theorem d_T_request_26 : decode b_T_request 26 = .ok (.goto 4, 3) := by decide +kernel
theorem d_T_request_29 : decode b_T_request 29 = .ok (.iconst 0, 1) := by decide +kernel
theorem d_T_request_30 : decode b_T_request 30 = .ok (.iaload, 1) := by decide +kernel
theorem d_T_request_31 : decode b_T_request 31 = .ok (.bipush 8, 2) := by decide +kernel
theorem d_T_request_33 : decode b_T_request 33 = .ok (.if_icmp .eq 8, 3) := by decide +kernel
theorem d_T_request_36 : decode b_T_request 36 = .ok (.iload_n 2, 1) := by decide +kernel
theorem d_T_request_37 : decode b_T_request 37 = .ok (.iconst 1, 1) := by decide +kernel
theorem d_T_request_38 : decode b_T_request 38 = .ok (.if_icmp .ge 5, 3) := by decide +kernel
theorem d_T_request_41 : decode b_T_request 41 = .ok (.iconst 0, 1) := by decide +kernel
theorem d_T_request_42 : decode b_T_request 42 = .ok (.ireturn, 1) := by decide +kernel
theorem d_T_request_43 : decode b_T_request 43 = .ok (.aload_n 0, 1) := by decide +kernel
theorem d_T_request_44 : decode b_T_request 44 = .ok (.getfield 56, 3) := by decide +kernel
theorem d_T_request_47 : decode b_T_request 47 = .ok (.bipush 8, 2) := by decide +kernel
theorem d_T_request_49 : decode b_T_request 49 = .ok (.iload_n 1, 1) := by decide +kernel
theorem d_T_request_50 : decode b_T_request 50 = .ok (.imul, 1) := by decide +kernel
theorem d_T_request_51 : decode b_T_request 51 = .ok (.aload_n 0, 1) := by decide +kernel
theorem d_T_request_52 : decode b_T_request 52 = .ok (.getfield 59, 3) := by decide +kernel
theorem d_T_request_55 : decode b_T_request 55 = .ok (.iload_n 1, 1) := by decide +kernel
theorem d_T_request_56 : decode b_T_request 56 = .ok (.iaload, 1) := by decide +kernel
theorem d_T_request_57 : decode b_T_request 57 = .ok (.iadd, 1) := by decide +kernel
theorem d_T_request_58 : decode b_T_request 58 = .ok (.iload_n 2, 1) := by decide +kernel
theorem d_T_request_59 : decode b_T_request 59 = .ok (.iastore, 1) := by decide +kernel
theorem d_T_request_60 : decode b_T_request 60 = .ok (.aload_n 0, 1) := by decide +kernel
theorem d_T_request_61 : decode b_T_request 61 = .ok (.getfield 59, 3) := by decide +kernel
theorem d_T_request_64 : decode b_T_request 64 = .ok (.iload_n 1, 1) := by decide +kernel
theorem d_T_request_65 : decode b_T_request 65 = .ok (.dup2, 1) := by decide +kernel
theorem d_T_request_66 : decode b_T_request 66 = .ok (.iaload, 1) := by decide +kernel
theorem d_T_request_67 : decode b_T_request 67 = .ok (.iconst 1, 1) := by decide +kernel
theorem d_T_request_68 : decode b_T_request 68 = .ok (.iadd, 1) := by decide +kernel
theorem d_T_request_69 : decode b_T_request 69 = .ok (.iastore, 1) := by decide +kernel
theorem d_T_request_70 : decode b_T_request 70 = .ok (.iconst 1, 1) := by decide +kernel
theorem d_T_request_71 : decode b_T_request 71 = .ok (.ireturn, 1) := by decide +kernel
theorem d_T_tick_0 : decode b_T_tick 0 = .ok (.aload_n 0, 1) := by decide +kernel
theorem d_T_tick_1 : decode b_T_tick 1 = .ok (.iconst 0, 1) := by decide +kernel
theorem d_T_tick_2 : decode b_T_tick 2 = .ok (.putfield 72, 3) := by decide +kernel
theorem d_T_tick_5 : decode b_T_tick 5 = .ok (.aload_n 0, 1) := by decide +kernel
theorem d_T_tick_6 : decode b_T_tick 6 = .ok (.iload_n 1, 1) := by decide +kernel
theorem d_T_tick_7 : decode b_T_tick 7 = .ok (.invokevirtual 135, 3) := by decide +kernel
theorem d_T_tick_10 : decode b_T_tick 10 = .ok (.ifCond .ne 5, 3) := by decide +kernel
theorem d_T_tick_13 : decode b_T_tick 13 = .ok (.iconst (-1), 1) := by decide +kernel
theorem d_T_tick_14 : decode b_T_tick 14 = .ok (.ireturn, 1) := by decide +kernel
theorem d_T_tick_15 : decode b_T_tick 15 = .ok (.aload_n 0, 1) := by decide +kernel
theorem d_T_tick_16 : decode b_T_tick 16 = .ok (.getfield 35, 3) := by decide +kernel
theorem d_T_tick_19 : decode b_T_tick 19 = .ok (.iload_n 1, 1) := by decide +kernel
theorem d_T_tick_20 : decode b_T_tick 20 = .ok (.iaload, 1) := by decide +kernel
theorem d_T_tick_21 : decode b_T_tick 21 = .ok (.iconst 2, 1) := by decide +kernel
theorem d_T_tick_22 : decode b_T_tick 22 = .ok (.if_icmp .ne 41, 3) := by decide +kernel
theorem d_T_tick_25 : decode b_T_tick 25 = .ok (.aload_n 0, 1) := by decide +kernel
theorem d_T_tick_26 : decode b_T_tick 26 = .ok (.getfield 44, 3) := by decide +kernel
theorem d_T_tick_29 : decode b_T_tick 29 = .ok (.iload_n 1, 1) := by decide +kernel
theorem d_T_tick_30 : decode b_T_tick 30 = .ok (.iaload, 1) := by decide +kernel
theorem d_T_tick_31 : decode b_T_tick 31 = .ok (.ifCond .le 32, 3) := by decide +kernel
theorem d_T_tick_34 : decode b_T_tick 34 = .ok (.aload_n 0, 1) := by decide +kernel
theorem d_T_tick_35 : decode b_T_tick 35 = .ok (.iconst 3, 1) := by decide +kernel
theorem d_T_tick_36 : decode b_T_tick 36 = .ok (.iload_n 1, 1) := by decide +kernel
theorem d_T_tick_37 : decode b_T_tick 37 = .ok (.aload_n 0, 1) := by decide +kernel
theorem d_T_tick_38 : decode b_T_tick 38 = .ok (.getfield 38, 3) := by decide +kernel
theorem d_T_tick_41 : decode b_T_tick 41 = .ok (.iload_n 1, 1) := by decide +kernel
theorem d_T_tick_42 : decode b_T_tick 42 = .ok (.iaload, 1) := by decide +kernel
theorem d_T_tick_43 : decode b_T_tick 43 = .ok (.aload_n 0, 1) := by decide +kernel
theorem d_T_tick_44 : decode b_T_tick 44 = .ok (.getfield 13, 3) := by decide +kernel
theorem d_T_tick_47 : decode b_T_tick 47 = .ok (.iload_n 1, 1) := by decide +kernel
theorem d_T_tick_48 : decode b_T_tick 48 = .ok (.iaload, 1) := by decide +kernel
theorem d_T_tick_49 : decode b_T_tick 49 = .ok (.iconst 1, 1) := by decide +kernel
theorem d_T_tick_50 : decode b_T_tick 50 = .ok (.iadd, 1) := by decide +kernel
theorem d_T_tick_51 : decode b_T_tick 51 = .ok (.aload_n 0, 1) := by decide +kernel
theorem d_T_tick_52 : decode b_T_tick 52 = .ok (.getfield 44, 3) := by decide +kernel
theorem d_T_tick_55 : decode b_T_tick 55 = .ok (.iload_n 1, 1) := by decide +kernel
theorem d_T_tick_56 : decode b_T_tick 56 = .ok (.iaload, 1) := by decide +kernel
theorem d_T_tick_57 : decode b_T_tick 57 = .ok (.invokevirtual 96, 3) := by decide +kernel
theorem d_T_tick_60 : decode b_T_tick 60 = .ok (.goto 98, 3) := by decide +kernel
theorem d_T_tick_63 : decode b_T_tick 63 = .ok (.aload_n 0, 1) := by decide +kernel
theorem d_T_tick_64 : decode b_T_tick 64 = .ok (.getfield 35, 3) := by decide +kernel
theorem d_T_tick_67 : decode b_T_tick 67 = .ok (.iload_n 1, 1) := by decide +kernel
theorem d_T_tick_68 : decode b_T_tick 68 = .ok (.iaload, 1) := by decide +kernel
theorem d_T_tick_69 : decode b_T_tick 69 = .ok (.iconst 2, 1) := by decide +kernel
theorem d_T_tick_70 : decode b_T_tick 70 = .ok (.if_icmp .ne 11, 3) := by decide +kernel
theorem d_T_tick_73 : decode b_T_tick 73 = .ok (.aload_n 0, 1) := by decide +kernel
theorem d_T_tick_74 : decode b_T_tick 74 = .ok (.iload_n 1, 1) := by decide +kernel
theorem d_T_tick_75 : decode b_T_tick 75 = .ok (.invokevirtual 112, 3) := by decide +kernel
theorem d_T_tick_78 : decode b_T_tick 78 = .ok (.goto 80, 3) := by decide +kernel
theorem d_T_tick_81 : decode b_T_tick 81 = .ok (.aload_n 0, 1) := by decide +kernel
theorem d_T_tick_82 : decode b_T_tick 82 = .ok (.getfield 35, 3) := by decide +kernel
theorem d_T_tick_85 : decode b_T_tick 85 = .ok (.iload_n 1, 1) := by decide +kernel
theorem d_T_tick_86 : decode b_T_tick 86 = .ok (.iaload, 1) := by decide +kernel
theorem d_T_tick_87 : decode b_T_tick 87 = .ok (.iconst 1, 1) := by decide +kernel
theorem d_T_tick_88 : decode b_T_tick 88 = .ok (.if_icmp .ne 27, 3) := by decide +kernel
theorem d_T_tick_91 : decode b_T_tick 91 = .ok (.aload_n 0, 1) := by decide +kernel
theorem d_T_tick_92 : decode b_T_tick 92 = .ok (.iconst 1, 1) := by decide +kernel
theorem d_T_tick_93 : decode b_T_tick 93 = .ok (.iload_n 1, 1) := by decide +kernel
theorem d_T_tick_94 : decode b_T_tick 94 = .ok (.aload_n 0, 1) := by decide +kernel
theorem d_T_tick_95 : decode b_T_tick 95 = .ok (.getfield 38, 3) := by decide +kernel
theorem d_T_tick_98 : decode b_T_tick 98 = .ok (.iload_n 1, 1) := by decide +kernel
theorem d_T_tick_99 : decode b_T_tick 99 = .ok (.iaload, 1) := by decide +kernel
theorem d_T_tick_100 : decode b_T_tick 100 = .ok (.aload_n 0, 1) := by decide +kernel
theorem d_T_tick_101 : decode b_T_tick 101 = .ok (.getfield 13, 3) := by decide +kernel
theorem d_T_tick_104 : decode b_T_tick 104 = .ok (.iload_n 1, 1) := by decide +kernel
theorem d_T_tick_105 : decode b_T_tick 105 = .ok (.iaload, 1) := by decide +kernel
theorem d_T_tick_106 : decode b_T_tick 106 = .ok (.iconst 1, 1) := by decide +kernel
theorem d_T_tick_107 : decode b_T_tick 107 = .ok (.iadd, 1) := by decide +kernel
theorem d_T_tick_108 : decode b_T_tick 108 = .ok (.iconst 0, 1) := by decide +kernel
theorem d_T_tick_109 : decode b_T_tick 109 = .ok (.invokevirtual 96, 3) := by decide +kernel
theorem d_T_tick_112 : decode b_T_tick 112 = .ok (.goto 46, 3) := by decide +kernel
theorem d_T_tick_115 : decode b_T_tick 115 = .ok (.aload_n 0, 1) := by decide +kernel
theorem d_T_tick_116 : decode b_T_tick 116 = .ok (.getfield 59, 3) := by decide +kernel
theorem d_T_tick_119 : decode b_T_tick 119 = .ok (.iload_n 1, 1) := by decide +kernel
theorem d_T_tick_120 : decode b_T_tick 120 = .ok (.iaload, 1) := by decide +kernel
theorem d_T_tick_121 : decode b_T_tick 121 = .ok (.ifCond .le 11, 3) := by decide +kernel
theorem d_T_tick_124 : decode b_T_tick 124 = .ok (.aload_n 0, 1) := by decide +kernel
theorem d_T_tick_125 : decode b_T_tick 125 = .ok (.iload_n 1, 1) := by decide +kernel
theorem d_T_tick_126 : decode b_T_tick 126 = .ok (.invokevirtual 138, 3) := by decide +kernel
theorem d_T_tick_129 : decode b_T_tick 129 = .ok (.goto 29, 3) := by decide +kernel
theorem d_T_tick_132 : decode b_T_tick 132 = .ok (.aload_n 0, 1) := by decide +kernel
theorem d_T_tick_133 : decode b_T_tick 133 = .ok (.bipush 6, 2) := by decide +kernel
theorem d_T_tick_135 : decode b_T_tick 135 = .ok (.iload_n 1, 1) := by decide +kernel
theorem d_T_tick_136 : decode b_T_tick 136 = .ok (.iload_n 1, 1) := by decide +kernel
theorem d_T_tick_137 : decode b_T_tick 137 = .ok (.iconst 1, 1) := by decide +kernel
theorem d_T_tick_138 : decode b_T_tick 138 = .ok (.iadd, 1) := by decide +kernel
theorem d_T_tick_139 : decode b_T_tick 139 = .ok (.aload_n 0, 1) := by decide +kernel
theorem d_T_tick_140 : decode b_T_tick 140 = .ok (.getfield 65, 3) := by decide +kernel
theorem d_T_tick_143 : decode b_T_tick 143 = .ok (.irem, 1) := by decide +kernel
theorem d_T_tick_144 : decode b_T_tick 144 = .ok (.iconst 0, 1) := by decide +kernel
theorem d_T_tick_145 : decode b_T_tick 145 = .ok (.aload_n 0, 1) := by decide +kernel
theorem d_T_tick_146 : decode b_T_tick 146 = .ok (.getfield 13, 3) := by decide +kernel
theorem d_T_tick_149 : decode b_T_tick 149 = .ok (.iload_n 1, 1) := by decide +kernel
theorem d_T_tick_150 : decode b_T_tick 150 = .ok (.iaload, 1) := by decide +kernel
theorem d_T_tick_151 : decode b_T_tick 151 = .ok (.iconst 1, 1) := by decide +kernel
theorem d_T_tick_152 : decode b_T_tick 152 = .ok (.iadd, 1) := by decide +kernel
theorem d_T_tick_153 : decode b_T_tick 153 = .ok (.iconst 0, 1) := by decide +kernel
theorem d_T_tick_154 : decode b_T_tick 154 = .ok (.iconst 0, 1) := by decide +kernel
theorem d_T_tick_155 : decode b_T_tick 155 = .ok (.invokevirtual 88, 3) := by decide +kernel
theorem d_T_tick_158 : decode b_T_tick 158 = .ok (.aload_n 0, 1) := by decide +kernel
theorem d_T_tick_159 : decode b_T_tick 159 = .ok (.getfield 82, 3) := by decide +kernel
theorem d_T_tick_162 : decode b_T_tick 162 = .ok (.ireturn, 1) := by decide +kernel
theorem d_T_deliver_0 : decode b_T_deliver 0 = .ok (.aload_n 0, 1) := by decide +kernel
theorem d_T_deliver_1 : decode b_T_deliver 1 = .ok (.iconst 0, 1) := by decide +kernel
theorem d_T_deliver_2 : decode b_T_deliver 2 = .ok (.putfield 72, 3) := by decide +kernel
theorem d_T_deliver_5 : decode b_T_deliver 5 = .ok (.iload_n 1, 1) := by decide +kernel
theorem d_T_deliver_6 : decode b_T_deliver 6 = .ok (.ifCond .lt 11, 3) := by decide +kernel
theorem d_T_deliver_9 : decode b_T_deliver 9 = .ok (.iload_n 1, 1) := by decide +kernel
theorem d_T_deliver_10 : decode b_T_deliver 10 = .ok (.aload_n 0, 1) := by decide +kernel
theorem d_T_deliver_11 : decode b_T_deliver 11 = .ok (.getfield 82, 3) := by decide +kernel
theorem d_T_deliver_14 : decode b_T_deliver 14 = .ok (.if_icmp .lt 5, 3) := by decide +kernel
theorem d_T_deliver_17 : decode b_T_deliver 17 = .ok (.iconst (-1), 1) := by decide +kernel
theorem d_T_deliver_18 : decode b_T_deliver 18 = .ok (.ireturn, 1) := by decide +kernel
theorem d_T_deliver_19 : decode b_T_deliver 19 = .ok (.bipush 7, 2) := by decide +kernel
theorem d_T_deliver_21 : decode b_T_deliver 21 = .ok (.iload_n 1, 1) := by decide +kernel
theorem d_T_deliver_22 : decode b_T_deliver 22 = .ok (.imul, 1) := by decide +kernel
theorem d_T_deliver_23 : decode b_T_deliver 23 = .ok (.istore_n 2, 1) := by decide +kernel
theorem d_T_deliver_24 : decode b_T_deliver 24 = .ok (.aload_n 0, 1) := by decide +kernel
theorem d_T_deliver_25 : decode b_T_deliver 25 = .ok (.getfield 62, 3) := by decide +kernel
theorem d_T_deliver_28 : decode b_T_deliver 28 = .ok (.iload_n 2, 1) := by decide +kernel
theorem d_T_deliver_29 : decode b_T_deliver 29 = .ok (.iaload, 1) := by decide +kernel
theorem d_T_deliver_30 : decode b_T_deliver 30 = .ok (.istore_n 3, 1) := by decide +kernel
theorem d_T_deliver_31 : decode b_T_deliver 31 = .ok (.aload_n 0, 1) := by decide +kernel
theorem d_T_deliver_32 : decode b_T_deliver 32 = .ok (.getfield 62, 3) := by decide +kernel
theorem d_T_deliver_35 : decode b_T_deliver 35 = .ok (.iload_n 2, 1) := by decide +kernel
theorem d_T_deliver_36 : decode b_T_deliver 36 = .ok (.iconst 1, 1) := by decide +kernel
theorem d_T_deliver_37 : decode b_T_deliver 37 = .ok (.iadd, 1) := by decide +kernel
theorem d_T_deliver_38 : decode b_T_deliver 38 = .ok (.iaload, 1) := by decide +kernel
theorem d_T_deliver_39 : decode b_T_deliver 39 = .ok (.istore 4, 2) := by decide +kernel
theorem d_T_deliver_41 : decode b_T_deliver 41 = .ok (.aload_n 0, 1) := by decide +kernel
theorem d_T_deliver_42 : decode b_T_deliver 42 = .ok (.getfield 62, 3) := by decide +kernel
theorem d_T_deliver_45 : decode b_T_deliver 45 = .ok (.iload_n 2, 1) := by decide +kernel
theorem d_T_deliver_46 : decode b_T_deliver 46 = .ok (.iconst 2, 1) := by decide +kernel
theorem d_T_deliver_47 : decode b_T_deliver 47 = .ok (.iadd, 1) := by decide +kernel
theorem d_T_deliver_48 : decode b_T_deliver 48 = .ok (.iaload, 1) := by decide +kernel
theorem d_T_deliver_49 : decode b_T_deliver 49 = .ok (.istore 5, 2) := by decide +kernel
theorem d_T_deliver_51 : decode b_T_deliver 51 = .ok (.aload_n 0, 1) := by decide +kernel
theorem d_T_deliver_52 : decode b_T_deliver 52 = .ok (.getfield 62, 3) := by decide +kernel
theorem d_T_deliver_55 : decode b_T_deliver 55 = .ok (.iload_n 2, 1) := by decide +kernel
theorem d_T_deliver_56 : decode b_T_deliver 56 = .ok (.iconst 3, 1) := by decide +kernel
theorem d_T_deliver_57 : decode b_T_deliver 57 = .ok (.iadd, 1) := by decide +kernel
theorem d_T_deliver_58 : decode b_T_deliver 58 = .ok (.iaload, 1) := by decide +kernel
theorem d_T_deliver_59 : decode b_T_deliver 59 = .ok (.istore 6, 2) := by decide +kernel
theorem d_T_deliver_61 : decode b_T_deliver 61 = .ok (.aload_n 0, 1) := by decide +kernel
theorem d_T_deliver_62 : decode b_T_deliver 62 = .ok (.getfield 62, 3) := by decide +kernel
theorem d_T_deliver_65 : decode b_T_deliver 65 = .ok (.iload_n 2, 1) := by decide +kernel
theorem d_T_deliver_66 : decode b_T_deliver 66 = .ok (.iconst 4, 1) := by decide +kernel
theorem d_T_deliver_67 : decode b_T_deliver 67 = .ok (.iadd, 1) := by decide +kernel
theorem d_T_deliver_68 : decode b_T_deliver 68 = .ok (.iaload, 1) := by decide +kernel
theorem d_T_deliver_69 : decode b_T_deliver 69 = .ok (.istore 7, 2) := by decide +kernel
theorem d_T_deliver_71 : decode b_T_deliver 71 = .ok (.aload_n 0, 1) := by decide +kernel
theorem d_T_deliver_72 : decode b_T_deliver 72 = .ok (.getfield 62, 3) := by decide +kernel
theorem d_T_deliver_75 : decode b_T_deliver 75 = .ok (.iload_n 2, 1) := by decide +kernel
theorem d_T_deliver_76 : decode b_T_deliver 76 = .ok (.iconst 5, 1) := by decide +kernel
theorem d_T_deliver_77 : decode b_T_deliver 77 = .ok (.iadd, 1) := by decide +kernel
theorem d_T_deliver_78 : decode b_T_deliver 78 = .ok (.iaload, 1) := by decide +kernel
