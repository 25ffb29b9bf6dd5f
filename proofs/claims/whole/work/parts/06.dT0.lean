theorem d_T_init_0 : decode b_T_init 0 = .ok (.aload_n 0, 1) := by decide +kernel
theorem d_T_init_1 : decode b_T_init 1 = .ok (.invokespecial 1, 3) := by decide +kernel
theorem d_T_init_4 : decode b_T_init 4 = .ok (.aload_n 0, 1) := by decide +kernel
theorem d_T_init_5 : decode b_T_init 5 = .ok (.iconst 5, 1) := by decide +kernel
theorem d_T_init_6 : decode b_T_init 6 = .ok (.newarray .boolean, 2) := by decide +kernel
theorem d_T_init_8 : decode b_T_init 8 = .ok (.putfield 7, 3) := by decide +kernel
theorem d_T_init_11 : decode b_T_init 11 = .ok (.aload_n 0, 1) := by decide +kernel
theorem d_T_init_12 : decode b_T_init 12 = .ok (.iconst 5, 1) := by decide +kernel
theorem d_T_init_13 : decode b_T_init 13 = .ok (.newarray .int, 2) := by decide +kernel
theorem d_T_init_15 : decode b_T_init 15 = .ok (.putfield 13, 3) := by decide +kernel
theorem d_T_init_18 : decode b_T_init 18 = .ok (.aload_n 0, 1) := by decide +kernel
theorem d_T_init_19 : decode b_T_init 19 = .ok (.iconst 5, 1) := by decide +kernel
theorem d_T_init_20 : decode b_T_init 20 = .ok (.newarray .int, 2) := by decide +kernel
theorem d_T_init_22 : decode b_T_init 22 = .ok (.putfield 17, 3) := by decide +kernel
theorem d_T_init_25 : decode b_T_init 25 = .ok (.aload_n 0, 1) := by decide +kernel
theorem d_T_init_26 : decode b_T_init 26 = .ok (.iconst 5, 1) := by decide +kernel
theorem d_T_init_27 : decode b_T_init 27 = .ok (.newarray .int, 2) := by decide +kernel
theorem d_T_init_29 : decode b_T_init 29 = .ok (.putfield 20, 3) := by decide +kernel
theorem d_T_init_32 : decode b_T_init 32 = .ok (.aload_n 0, 1) := by decide +kernel
theorem d_T_init_33 : decode b_T_init 33 = .ok (.iconst 5, 1) := by decide +kernel
theorem d_T_init_34 : decode b_T_init 34 = .ok (.newarray .int, 2) := by decide +kernel
theorem d_T_init_36 : decode b_T_init 36 = .ok (.putfield 23, 3) := by decide +kernel
theorem d_T_init_39 : decode b_T_init 39 = .ok (.aload_n 0, 1) := by decide +kernel
theorem d_T_init_40 : decode b_T_init 40 = .ok (.iconst 5, 1) := by decide +kernel
theorem d_T_init_41 : decode b_T_init 41 = .ok (.newarray .int, 2) := by decide +kernel
theorem d_T_init_43 : decode b_T_init 43 = .ok (.putfield 26, 3) := by decide +kernel
theorem d_T_init_46 : decode b_T_init 46 = .ok (.aload_n 0, 1) := by decide +kernel
theorem d_T_init_47 : decode b_T_init 47 = .ok (.iconst 5, 1) := by decide +kernel
theorem d_T_init_48 : decode b_T_init 48 = .ok (.newarray .int, 2) := by decide +kernel
theorem d_T_init_50 : decode b_T_init 50 = .ok (.putfield 29, 3) := by decide +kernel
theorem d_T_init_53 : decode b_T_init 53 = .ok (.aload_n 0, 1) := by decide +kernel
theorem d_T_init_54 : decode b_T_init 54 = .ok (.sipush 200, 3) := by decide +kernel
theorem d_T_init_57 : decode b_T_init 57 = .ok (.newarray .int, 2) := by decide +kernel
theorem d_T_init_59 : decode b_T_init 59 = .ok (.putfield 32, 3) := by decide +kernel
theorem d_T_init_62 : decode b_T_init 62 = .ok (.aload_n 0, 1) := by decide +kernel
theorem d_T_init_63 : decode b_T_init 63 = .ok (.iconst 5, 1) := by decide +kernel
theorem d_T_init_64 : decode b_T_init 64 = .ok (.newarray .int, 2) := by decide +kernel
theorem d_T_init_66 : decode b_T_init 66 = .ok (.putfield 35, 3) := by decide +kernel
theorem d_T_init_69 : decode b_T_init 69 = .ok (.aload_n 0, 1) := by decide +kernel
theorem d_T_init_70 : decode b_T_init 70 = .ok (.iconst 5, 1) := by decide +kernel
theorem d_T_init_71 : decode b_T_init 71 = .ok (.newarray .int, 2) := by decide +kernel
theorem d_T_init_73 : decode b_T_init 73 = .ok (.putfield 38, 3) := by decide +kernel
theorem d_T_init_76 : decode b_T_init 76 = .ok (.aload_n 0, 1) := by decide +kernel
theorem d_T_init_77 : decode b_T_init 77 = .ok (.iconst 5, 1) := by decide +kernel
theorem d_T_init_78 : decode b_T_init 78 = .ok (.newarray .int, 2) := by decide +kernel
theorem d_T_init_80 : decode b_T_init 80 = .ok (.putfield 41, 3) := by decide +kernel
theorem d_T_init_83 : decode b_T_init 83 = .ok (.aload_n 0, 1) := by decide +kernel
theorem d_T_init_84 : decode b_T_init 84 = .ok (.iconst 5, 1) := by decide +kernel
theorem d_T_init_85 : decode b_T_init 85 = .ok (.newarray .int, 2) := by decide +kernel
theorem d_T_init_87 : decode b_T_init 87 = .ok (.putfield 44, 3) := by decide +kernel
theorem d_T_init_90 : decode b_T_init 90 = .ok (.aload_n 0, 1) := by decide +kernel
theorem d_T_init_91 : decode b_T_init 91 = .ok (.iconst 5, 1) := by decide +kernel
theorem d_T_init_92 : decode b_T_init 92 = .ok (.newarray .int, 2) := by decide +kernel
theorem d_T_init_94 : decode b_T_init 94 = .ok (.putfield 47, 3) := by decide +kernel
theorem d_T_init_97 : decode b_T_init 97 = .ok (.aload_n 0, 1) := by decide +kernel
theorem d_T_init_98 : decode b_T_init 98 = .ok (.iconst 5, 1) := by decide +kernel
theorem d_T_init_99 : decode b_T_init 99 = .ok (.newarray .int, 2) := by decide +kernel
theorem d_T_init_101 : decode b_T_init 101 = .ok (.putfield 50, 3) := by decide +kernel
theorem d_T_init_104 : decode b_T_init 104 = .ok (.aload_n 0, 1) := by decide +kernel
theorem d_T_init_105 : decode b_T_init 105 = .ok (.iconst 5, 1) := by decide +kernel
theorem d_T_init_106 : decode b_T_init 106 = .ok (.newarray .int, 2) := by decide +kernel
theorem d_T_init_108 : decode b_T_init 108 = .ok (.putfield 53, 3) := by decide +kernel
theorem d_T_init_111 : decode b_T_init 111 = .ok (.aload_n 0, 1) := by decide +kernel
theorem d_T_init_112 : decode b_T_init 112 = .ok (.bipush 40, 2) := by decide +kernel
theorem d_T_init_114 : decode b_T_init 114 = .ok (.newarray .int, 2) := by decide +kernel
theorem d_T_init_116 : decode b_T_init 116 = .ok (.putfield 56, 3) := by decide +kernel
theorem d_T_init_119 : decode b_T_init 119 = .ok (.aload_n 0, 1) := by decide +kernel
theorem d_T_init_120 : decode b_T_init 120 = .ok (.iconst 5, 1) := by decide +kernel
theorem d_T_init_121 : decode b_T_init 121 = .ok (.newarray .int, 2) := by decide +kernel
theorem d_T_init_123 : decode b_T_init 123 = .ok (.putfield 59, 3) := by decide +kernel
theorem d_T_init_126 : decode b_T_init 126 = .ok (.aload_n 0, 1) := by decide +kernel
theorem d_T_init_127 : decode b_T_init 127 = .ok (.sipush 1407, 3) := by decide +kernel
theorem d_T_init_130 : decode b_T_init 130 = .ok (.newarray .int, 2) := by decide +kernel
theorem d_T_init_132 : decode b_T_init 132 = .ok (.putfield 62, 3) := by decide +kernel
theorem d_T_init_135 : decode b_T_init 135 = .ok (.aload_n 0, 1) := by decide +kernel
theorem d_T_init_136 : decode b_T_init 136 = .ok (.iload_n 1, 1) := by decide +kernel
theorem d_T_init_137 : decode b_T_init 137 = .ok (.iconst 3, 1) := by decide +kernel
theorem d_T_init_138 : decode b_T_init 138 = .ok (.if_icmp .ge 7, 3) := by decide +kernel
theorem d_T_init_141 : decode b_T_init 141 = .ok (.iconst 3, 1) := by decide +kernel
theorem d_T_init_142 : decode b_T_init 142 = .ok (.goto 13, 3) := by decide +kernel
theorem d_T_init_145 : decode b_T_init 145 = .ok (.iload_n 1, 1) := by decide +kernel
theorem d_T_init_146 : decode b_T_init 146 = .ok (.iconst 5, 1) := by decide +kernel
theorem d_T_init_147 : decode b_T_init 147 = .ok (.if_icmp .le 7, 3) := by decide +kernel
theorem d_T_init_150 : decode b_T_init 150 = .ok (.iconst 5, 1) := by decide +kernel
theorem d_T_init_151 : decode b_T_init 151 = .ok (.goto 4, 3) := by decide +kernel
theorem d_T_init_154 : decode b_T_init 154 = .ok (.iload_n 1, 1) := by decide +kernel
theorem d_T_init_155 : decode b_T_init 155 = .ok (.putfield 65, 3) := by decide +kernel
theorem d_T_init_158 : decode b_T_init 158 = .ok (.aload_n 0, 1) := by decide +kernel
theorem d_T_init_159 : decode b_T_init 159 = .ok (.iload_n 2, 1) := by decide +kernel
theorem d_T_init_160 : decode b_T_init 160 = .ok (.iconst 1, 1) := by decide +kernel
theorem d_T_init_161 : decode b_T_init 161 = .ok (.if_icmp .ge 7, 3) := by decide +kernel
theorem d_T_init_164 : decode b_T_init 164 = .ok (.iconst 1, 1) := by decide +kernel
theorem d_T_init_165 : decode b_T_init 165 = .ok (.goto 15, 3) := by decide +kernel
theorem d_T_init_168 : decode b_T_init 168 = .ok (.iload_n 2, 1) := by decide +kernel
theorem d_T_init_169 : decode b_T_init 169 = .ok (.bipush 32, 2) := by decide +kernel
theorem d_T_init_171 : decode b_T_init 171 = .ok (.if_icmp .le 8, 3) := by decide +kernel
theorem d_T_init_174 : decode b_T_init 174 = .ok (.bipush 32, 2) := by decide +kernel
theorem d_T_init_176 : decode b_T_init 176 = .ok (.goto 4, 3) := by decide +kernel
theorem d_T_init_179 : decode b_T_init 179 = .ok (.iload_n 2, 1) := by decide +kernel
theorem d_T_init_180 : decode b_T_init 180 = .ok (.putfield 69, 3) := by decide +kernel
theorem d_T_init_183 : decode b_T_init 183 = .ok (.iconst 0, 1) := by decide +kernel
theorem d_T_init_184 : decode b_T_init 184 = .ok (.istore_n 3, 1) := by decide +kernel
theorem d_T_init_185 : decode b_T_init 185 = .ok (.iload_n 3, 1) := by decide +kernel
theorem d_T_init_186 : decode b_T_init 186 = .ok (.aload_n 0, 1) := by decide +kernel
theorem d_T_init_187 : decode b_T_init 187 = .ok (.getfield 65, 3) := by decide +kernel
theorem d_T_init_190 : decode b_T_init 190 = .ok (.if_icmp .ge 16, 3) := by decide +kernel
theorem d_T_init_193 : decode b_T_init 193 = .ok (.aload_n 0, 1) := by decide +kernel
theorem d_T_init_194 : decode b_T_init 194 = .ok (.getfield 7, 3) := by decide +kernel
theorem d_T_init_197 : decode b_T_init 197 = .ok (.iload_n 3, 1) := by decide +kernel
theorem d_T_init_198 : decode b_T_init 198 = .ok (.iconst 1, 1) := by decide +kernel
theorem d_T_init_199 : decode b_T_init 199 = .ok (.bastore, 1) := by decide +kernel
theorem d_T_init_200 : decode b_T_init 200 = .ok (.iinc 3 1, 3) := by decide +kernel
theorem d_T_init_203 : decode b_T_init 203 = .ok (.goto (-18), 3) := by decide +kernel
theorem d_T_init_206 : decode b_T_init 206 = .ok (.return_, 1) := by decide +kernel
theorem d_T_isReplica_0 : decode b_T_isReplica 0 = .ok (.iload_n 1, 1) := by decide +kernel
theorem d_T_isReplica_1 : decode b_T_isReplica 1 = .ok (.ifCond .lt 15, 3) := by decide +kernel
theorem d_T_isReplica_4 : decode b_T_isReplica 4 = .ok (.iload_n 1, 1) := by decide +kernel
theorem d_T_isReplica_5 : decode b_T_isReplica 5 = .ok (.aload_n 0, 1) := by decide +kernel
theorem d_T_isReplica_6 : decode b_T_isReplica 6 = .ok (.getfield 65, 3) := by decide +kernel
theorem d_T_isReplica_9 : decode b_T_isReplica 9 = .ok (.if_icmp .ge 7, 3) := by decide +kernel
theorem d_T_isReplica_12 : decode b_T_isReplica 12 = .ok (.iconst 1, 1) := by decide +kernel
theorem d_T_isReplica_13 : decode b_T_isReplica 13 = .ok (.goto 4, 3) := by decide +kernel
theorem d_T_isReplica_16 : decode b_T_isReplica 16 = .ok (.iconst 0, 1) := by decide +kernel
theorem d_T_isReplica_17 : decode b_T_isReplica 17 = .ok (.ireturn, 1) := by decide +kernel
theorem d_T_isUp_0 : decode b_T_isUp 0 = .ok (.aload_n 0, 1) := by decide +kernel
theorem d_T_isUp_1 : decode b_T_isUp 1 = .ok (.iload_n 1, 1) := by decide +kernel
theorem d_T_isUp_2 : decode b_T_isUp 2 = .ok (.invokevirtual 75, 3) := by decide +kernel
theorem d_T_isUp_5 : decode b_T_isUp 5 = .ok (.ifCond .eq 28, 3) := by decide +kernel
theorem d_T_isUp_8 : decode b_T_isUp 8 = .ok (.aload_n 0, 1) := by decide +kernel
theorem d_T_isUp_9 : decode b_T_isUp 9 = .ok (.getfield 7, 3) := by decide +kernel
theorem d_T_isUp_12 : decode b_T_isUp 12 = .ok (.aload_n 0, 1) := by decide +kernel
theorem d_T_isUp_13 : decode b_T_isUp 13 = .ok (.iload_n 1, 1) := by decide +kernel
theorem d_T_isUp_14 : decode b_T_isUp 14 = .ok (.invokevirtual 75, 3) := by decide +kernel
theorem d_T_isUp_17 : decode b_T_isUp 17 = .ok (.ifCond .eq 7, 3) := by decide +kernel
theorem d_T_isUp_20 : decode b_T_isUp 20 = .ok (.iload_n 1, 1) := by decide +kernel
theorem d_T_isUp_21 : decode b_T_isUp 21 = .ok (.goto 4, 3) := by decide +kernel
theorem d_T_isUp_24 : decode b_T_isUp 24 = .ok (.iconst 0, 1) := by decide +kernel
theorem d_T_isUp_25 : decode b_T_isUp 25 = .ok (.baload, 1) := by decide +kernel
theorem d_T_isUp_26 : decode b_T_isUp 26 = .ok (.ifCond .eq 7, 3) := by decide +kernel
theorem d_T_isUp_29 : decode b_T_isUp 29 = .ok (.iconst 1, 1) := by decide +kernel
theorem d_T_isUp_30 : decode b_T_isUp 30 = .ok (.goto 4, 3) := by decide +kernel
theorem d_T_isUp_33 : decode b_T_isUp 33 = .ok (.iconst 0, 1) := by decide +kernel
theorem d_T_isUp_34 : decode b_T_isUp 34 = .ok (.ireturn, 1) := by decide +kernel
theorem d_T_send_0 : decode b_T_send 0 = .ok (.aload_n 0, 1) := by decide +kernel
theorem d_T_send_1 : decode b_T_send 1 = .ok (.dup, 1) := by decide +kernel
theorem d_T_send_2 : decode b_T_send 2 = .ok (.getfield 79, 3) := by decide +kernel
theorem d_T_send_5 : decode b_T_send 5 = .ok (.iconst 1, 1) := by decide +kernel
theorem d_T_send_6 : decode b_T_send 6 = .ok (.iadd, 1) := by decide +kernel
theorem d_T_send_7 : decode b_T_send 7 = .ok (.putfield 79, 3) := by decide +kernel
theorem d_T_send_10 : decode b_T_send 10 = .ok (.aload_n 0, 1) := by decide +kernel
theorem d_T_send_11 : decode b_T_send 11 = .ok (.getfield 82, 3) := by decide +kernel
theorem d_T_send_14 : decode b_T_send 14 = .ok (.sipush 200, 3) := by decide +kernel
theorem d_T_send_17 : decode b_T_send 17 = .ok (.if_icmp .ne 14, 3) := by decide +kernel
theorem d_T_send_20 : decode b_T_send 20 = .ok (.aload_n 0, 1) := by decide +kernel
theorem d_T_send_21 : decode b_T_send 21 = .ok (.dup, 1) := by decide +kernel
theorem d_T_send_22 : decode b_T_send 22 = .ok (.getfield 85, 3) := by decide +kernel
theorem d_T_send_25 : decode b_T_send 25 = .ok (.iconst 1, 1) := by decide +kernel
theorem d_T_send_26 : decode b_T_send 26 = .ok (.iadd, 1) := by decide +kernel
theorem d_T_send_27 : decode b_T_send 27 = .ok (.putfield 85, 3) := by decide +kernel
theorem d_T_send_30 : decode b_T_send 30 = .ok (.return_, 1) := by decide +kernel
theorem d_T_send_31 : decode b_T_send 31 = .ok (.bipush 7, 2) := by decide +kernel
theorem d_T_send_33 : decode b_T_send 33 = .ok (.aload_n 0, 1) := by decide +kernel
theorem d_T_send_34 : decode b_T_send 34 = .ok (.getfield 82, 3) := by decide +kernel
theorem d_T_send_37 : decode b_T_send 37 = .ok (.imul, 1) := by decide +kernel
theorem d_T_send_38 : decode b_T_send 38 = .ok (.istore 8, 2) := by decide +kernel
theorem d_T_send_40 : decode b_T_send 40 = .ok (.aload_n 0, 1) := by decide +kernel
theorem d_T_send_41 : decode b_T_send 41 = .ok (.getfield 62, 3) := by decide +kernel
theorem d_T_send_44 : decode b_T_send 44 = .ok (.iload 8, 2) := by decide +kernel
theorem d_T_send_46 : decode b_T_send 46 = .ok (.iload_n 1, 1) := by decide +kernel
theorem d_T_send_47 : decode b_T_send 47 = .ok (.iastore, 1) := by decide +kernel
theorem d_T_send_48 : decode b_T_send 48 = .ok (.aload_n 0, 1) := by decide +kernel
theorem d_T_send_49 : decode b_T_send 49 = .ok (.getfield 62, 3) := by decide +kernel
theorem d_T_send_52 : decode b_T_send 52 = .ok (.iload 8, 2) := by decide +kernel
theorem d_T_send_54 : decode b_T_send 54 = .ok (.iconst 1, 1) := by decide +kernel
theorem d_T_send_55 : decode b_T_send 55 = .ok (.iadd, 1) := by decide +kernel
theorem d_T_send_56 : decode b_T_send 56 = .ok (.iload_n 2, 1) := by decide +kernel
theorem d_T_send_57 : decode b_T_send 57 = .ok (.iastore, 1) := by decide +kernel
theorem d_T_send_58 : decode b_T_send 58 = .ok (.aload_n 0, 1) := by decide +kernel
theorem d_T_send_59 : decode b_T_send 59 = .ok (.getfield 62, 3) := by decide +kernel
theorem d_T_send_62 : decode b_T_send 62 = .ok (.iload 8, 2) := by decide +kernel
theorem d_T_send_64 : decode b_T_send 64 = .ok (.iconst 2, 1) := by decide +kernel
theorem d_T_send_65 : decode b_T_send 65 = .ok (.iadd, 1) := by decide +kernel
theorem d_T_send_66 : decode b_T_send 66 = .ok (.iload_n 3, 1) := by decide +kernel
theorem d_T_send_67 : decode b_T_send 67 = .ok (.iastore, 1) := by decide +kernel
theorem d_T_send_68 : decode b_T_send 68 = .ok (.aload_n 0, 1) := by decide +kernel
theorem d_T_send_69 : decode b_T_send 69 = .ok (.getfield 62, 3) := by decide +kernel
theorem d_T_send_72 : decode b_T_send 72 = .ok (.iload 8, 2) := by decide +kernel
theorem d_T_send_74 : decode b_T_send 74 = .ok (.iconst 3, 1) := by decide +kernel
theorem d_T_send_75 : decode b_T_send 75 = .ok (.iadd, 1) := by decide +kernel
theorem d_T_send_76 : decode b_T_send 76 = .ok (.iload 4, 2) := by decide +kernel
theorem d_T_send_78 : decode b_T_send 78 = .ok (.iastore, 1) := by decide +kernel
theorem d_T_send_79 : decode b_T_send 79 = .ok (.aload_n 0, 1) := by decide +kernel
theorem d_T_send_80 : decode b_T_send 80 = .ok (.getfield 62, 3) := by decide +kernel
theorem d_T_send_83 : decode b_T_send 83 = .ok (.iload 8, 2) := by decide +kernel
theorem d_T_send_85 : decode b_T_send 85 = .ok (.iconst 4, 1) := by decide +kernel
theorem d_T_send_86 : decode b_T_send 86 = .ok (.iadd, 1) := by decide +kernel
theorem d_T_send_87 : decode b_T_send 87 = .ok (.iload 5, 2) := by decide +kernel
theorem d_T_send_89 : decode b_T_send 89 = .ok (.iastore, 1) := by decide +kernel
theorem d_T_send_90 : decode b_T_send 90 = .ok (.aload_n 0, 1) := by decide +kernel
theorem d_T_send_91 : decode b_T_send 91 = .ok (.getfield 62, 3) := by decide +kernel
theorem d_T_send_94 : decode b_T_send 94 = .ok (.iload 8, 2) := by decide +kernel
theorem d_T_send_96 : decode b_T_send 96 = .ok (.iconst 5, 1) := by decide +kernel
theorem d_T_send_97 : decode b_T_send 97 = .ok (.iadd, 1) := by decide +kernel
theorem d_T_send_98 : decode b_T_send 98 = .ok (.iload 6, 2) := by decide +kernel
theorem d_T_send_100 : decode b_T_send 100 = .ok (.iastore, 1) := by decide +kernel
theorem d_T_send_101 : decode b_T_send 101 = .ok (.aload_n 0, 1) := by decide +kernel
theorem d_T_send_102 : decode b_T_send 102 = .ok (.getfield 62, 3) := by decide +kernel
theorem d_T_send_105 : decode b_T_send 105 = .ok (.iload 8, 2) := by decide +kernel
theorem d_T_send_107 : decode b_T_send 107 = .ok (.bipush 6, 2) := by decide +kernel
theorem d_T_send_109 : decode b_T_send 109 = .ok (.iadd, 1) := by decide +kernel
theorem d_T_send_110 : decode b_T_send 110 = .ok (.iload 7, 2) := by decide +kernel
theorem d_T_send_112 : decode b_T_send 112 = .ok (.iastore, 1) := by decide +kernel
theorem d_T_send_113 : decode b_T_send 113 = .ok (.aload_n 0, 1) := by decide +kernel
theorem d_T_send_114 : decode b_T_send 114 = .ok (.dup, 1) := by decide +kernel
theorem d_T_send_115 : decode b_T_send 115 = .ok (.getfield 82, 3) := by decide +kernel
theorem d_T_send_118 : decode b_T_send 118 = .ok (.iconst 1, 1) := by decide +kernel
theorem d_T_send_119 : decode b_T_send 119 = .ok (.iadd, 1) := by decide +kernel
theorem d_T_send_120 : decode b_T_send 120 = .ok (.putfield 82, 3) := by decide +kernel
theorem d_T_send_123 : decode b_T_send 123 = .ok (.return_, 1) := by decide +kernel
theorem d_T_sendAll_0 : decode b_T_sendAll 0 = .ok (.iconst 0, 1) := by decide +kernel
theorem d_T_sendAll_1 : decode b_T_sendAll 1 = .ok (.istore 6, 2) := by decide +kernel
theorem d_T_sendAll_3 : decode b_T_sendAll 3 = .ok (.iload 6, 2) := by decide +kernel
theorem d_T_sendAll_5 : decode b_T_sendAll 5 = .ok (.aload_n 0, 1) := by decide +kernel
theorem d_T_sendAll_6 : decode b_T_sendAll 6 = .ok (.getfield 65, 3) := by decide +kernel
theorem d_T_sendAll_9 : decode b_T_sendAll 9 = .ok (.if_icmp .ge 29, 3) := by decide +kernel
theorem d_T_sendAll_12 : decode b_T_sendAll 12 = .ok (.iload 6, 2) := by decide +kernel
theorem d_T_sendAll_14 : decode b_T_sendAll 14 = .ok (.iload_n 2, 1) := by decide +kernel
theorem d_T_sendAll_15 : decode b_T_sendAll 15 = .ok (.if_icmp .eq 17, 3) := by decide +kernel
theorem d_T_sendAll_18 : decode b_T_sendAll 18 = .ok (.aload_n 0, 1) := by decide +kernel
theorem d_T_sendAll_19 : decode b_T_sendAll 19 = .ok (.iload_n 1, 1) := by decide +kernel
theorem d_T_sendAll_20 : decode b_T_sendAll 20 = .ok (.iload_n 2, 1) := by decide +kernel
theorem d_T_sendAll_21 : decode b_T_sendAll 21 = .ok (.iload 6, 2) := by decide +kernel
theorem d_T_sendAll_23 : decode b_T_sendAll 23 = .ok (.iload_n 3, 1) := by decide +kernel
theorem d_T_sendAll_24 : decode b_T_sendAll 24 = .ok (.iload 4, 2) := by decide +kernel
theorem d_T_sendAll_26 : decode b_T_sendAll 26 = .ok (.iload 5, 2) := by decide +kernel
theorem d_T_sendAll_28 : decode b_T_sendAll 28 = .ok (.iconst 0, 1) := by decide +kernel
theorem d_T_sendAll_29 : decode b_T_sendAll 29 = .ok (.invokevirtual 88, 3) := by decide +kernel
theorem d_T_sendAll_32 : decode b_T_sendAll 32 = .ok (.iinc 6 1, 3) := by decide +kernel
theorem d_T_sendAll_35 : decode b_T_sendAll 35 = .ok (.goto (-32), 3) := by decide +kernel
theorem d_T_sendAll_38 : decode b_T_sendAll 38 = .ok (.return_, 1) := by decide +kernel
theorem d_T_remove_0 : decode b_T_remove 0 = .ok (.aload_n 0, 1) := by decide +kernel
theorem d_T_remove_1 : decode b_T_remove 1 = .ok (.dup, 1) := by decide +kernel
theorem d_T_remove_2 : decode b_T_remove 2 = .ok (.getfield 82, 3) := by decide +kernel
theorem d_T_remove_5 : decode b_T_remove 5 = .ok (.iconst 1, 1) := by decide +kernel
theorem d_T_remove_6 : decode b_T_remove 6 = .ok (.isub, 1) := by decide +kernel
theorem d_T_remove_7 : decode b_T_remove 7 = .ok (.putfield 82, 3) := by decide +kernel
theorem d_T_remove_10 : decode b_T_remove 10 = .ok (.bipush 7, 2) := by decide +kernel
theorem d_T_remove_12 : decode b_T_remove 12 = .ok (.iload_n 1, 1) := by decide +kernel
theorem d_T_remove_13 : decode b_T_remove 13 = .ok (.imul, 1) := by decide +kernel
theorem d_T_remove_14 : decode b_T_remove 14 = .ok (.istore_n 2, 1) := by decide +kernel
theorem d_T_remove_15 : decode b_T_remove 15 = .ok (.iload_n 2, 1) := by decide +kernel
theorem d_T_remove_16 : decode b_T_remove 16 = .ok (.bipush 7, 2) := by decide +kernel
theorem d_T_remove_18 : decode b_T_remove 18 = .ok (.aload_n 0, 1) := by decide +kernel
theorem d_T_remove_19 : decode b_T_remove 19 = .ok (.getfield 82, 3) := by decide +kernel
theorem d_T_remove_22 : decode b_T_remove 22 = .ok (.imul, 1) := by decide +kernel
theorem d_T_remove_23 : decode b_T_remove 23 = .ok (.if_icmp .ge 24, 3) := by decide +kernel
theorem d_T_remove_26 : decode b_T_remove 26 = .ok (.aload_n 0, 1) := by decide +kernel
theorem d_T_remove_27 : decode b_T_remove 27 = .ok (.getfield 62, 3) := by decide +kernel
theorem d_T_remove_30 : decode b_T_remove 30 = .ok (.iload_n 2, 1) := by decide +kernel
theorem d_T_remove_31 : decode b_T_remove 31 = .ok (.aload_n 0, 1) := by decide +kernel
theorem d_T_remove_32 : decode b_T_remove 32 = .ok (.getfield 62, 3) := by decide +kernel
theorem d_T_remove_35 : decode b_T_remove 35 = .ok (.iload_n 2, 1) := by decide +kernel
theorem d_T_remove_36 : decode b_T_remove 36 = .ok (.bipush 7, 2) := by decide +kernel
theorem d_T_remove_38 : decode b_T_remove 38 = .ok (.iadd, 1) := by decide +kernel
theorem d_T_remove_39 : decode b_T_remove 39 = .ok (.iaload, 1) := by decide +kernel
theorem d_T_remove_40 : decode b_T_remove 40 = .ok (.iastore, 1) := by decide +kernel
theorem d_T_remove_41 : decode b_T_remove 41 = .ok (.iinc 2 1, 3) := by decide +kernel
theorem d_T_remove_44 : decode b_T_remove 44 = .ok (.goto (-29), 3) := by decide +kernel
theorem d_T_remove_47 : decode b_T_remove 47 = .ok (.return_, 1) := by decide +kernel
theorem d_T_follow_0 : decode b_T_follow 0 = .ok (.aload_n 0, 1) := by decide +kernel
theorem d_T_follow_1 : decode b_T_follow 1 = .ok (.getfield 35, 3) := by decide +kernel
theorem d_T_follow_4 : decode b_T_follow 4 = .ok (.iload_n 1, 1) := by decide +kernel
theorem d_T_follow_5 : decode b_T_follow 5 = .ok (.iconst 0, 1) := by decide +kernel
theorem d_T_follow_6 : decode b_T_follow 6 = .ok (.iastore, 1) := by decide +kernel
theorem d_T_follow_7 : decode b_T_follow 7 = .ok (.aload_n 0, 1) := by decide +kernel
theorem d_T_follow_8 : decode b_T_follow 8 = .ok (.getfield 38, 3) := by decide +kernel
theorem d_T_follow_11 : decode b_T_follow 11 = .ok (.iload_n 1, 1) := by decide +kernel
theorem d_T_follow_12 : decode b_T_follow 12 = .ok (.iconst 0, 1) := by decide +kernel
theorem d_T_follow_13 : decode b_T_follow 13 = .ok (.iastore, 1) := by decide +kernel
theorem d_T_follow_14 : decode b_T_follow 14 = .ok (.aload_n 0, 1) := by decide +kernel
theorem d_T_follow_15 : decode b_T_follow 15 = .ok (.getfield 41, 3) := by decide +kernel
theorem d_T_follow_18 : decode b_T_follow 18 = .ok (.iload_n 1, 1) := by decide +kernel
theorem d_T_follow_19 : decode b_T_follow 19 = .ok (.iconst 0, 1) := by decide +kernel
theorem d_T_follow_20 : decode b_T_follow 20 = .ok (.iastore, 1) := by decide +kernel
theorem d_T_follow_21 : decode b_T_follow 21 = .ok (.aload_n 0, 1) := by decide +kernel
theorem d_T_follow_22 : decode b_T_follow 22 = .ok (.getfield 44, 3) := by decide +kernel
theorem d_T_follow_25 : decode b_T_follow 25 = .ok (.iload_n 1, 1) := by decide +kernel
theorem d_T_follow_26 : decode b_T_follow 26 = .ok (.iconst 0, 1) := by decide +kernel
theorem d_T_follow_27 : decode b_T_follow 27 = .ok (.iastore, 1) := by decide +kernel
theorem d_T_follow_28 : decode b_T_follow 28 = .ok (.aload_n 0, 1) := by decide +kernel
theorem d_T_follow_29 : decode b_T_follow 29 = .ok (.getfield 47, 3) := by decide +kernel
theorem d_T_follow_32 : decode b_T_follow 32 = .ok (.iload_n 1, 1) := by decide +kernel
theorem d_T_follow_33 : decode b_T_follow 33 = .ok (.iconst 0, 1) := by decide +kernel
theorem d_T_follow_34 : decode b_T_follow 34 = .ok (.iastore, 1) := by decide +kernel
theorem d_T_follow_35 : decode b_T_follow 35 = .ok (.aload_n 0, 1) := by decide +kernel
theorem d_T_follow_36 : decode b_T_follow 36 = .ok (.getfield 50, 3) := by decide +kernel
theorem d_T_follow_39 : decode b_T_follow 39 = .ok (.iload_n 1, 1) := by decide +kernel
theorem d_T_follow_40 : decode b_T_follow 40 = .ok (.iconst 0, 1) := by decide +kernel
theorem d_T_follow_41 : decode b_T_follow 41 = .ok (.iastore, 1) := by decide +kernel
theorem d_T_follow_42 : decode b_T_follow 42 = .ok (.return_, 1) := by decide +kernel
theorem d_T_campaign_0 : decode b_T_campaign 0 = .ok (.aload_n 0, 1) := by decide +kernel
theorem d_T_campaign_1 : decode b_T_campaign 1 = .ok (.getfield 23, 3) := by decide +kernel
theorem d_T_campaign_4 : decode b_T_campaign 4 = .ok (.iload_n 1, 1) := by decide +kernel
theorem d_T_campaign_5 : decode b_T_campaign 5 = .ok (.iaload, 1) := by decide +kernel
theorem d_T_campaign_6 : decode b_T_campaign 6 = .ok (.aload_n 0, 1) := by decide +kernel
theorem d_T_campaign_7 : decode b_T_campaign 7 = .ok (.getfield 53, 3) := by decide +kernel
theorem d_T_campaign_10 : decode b_T_campaign 10 = .ok (.iload_n 1, 1) := by decide +kernel
theorem d_T_campaign_11 : decode b_T_campaign 11 = .ok (.iaload, 1) := by decide +kernel
theorem d_T_campaign_12 : decode b_T_campaign 12 = .ok (.if_icmp .le 12, 3) := by decide +kernel
theorem d_T_campaign_15 : decode b_T_campaign 15 = .ok (.aload_n 0, 1) := by decide +kernel
theorem d_T_campaign_16 : decode b_T_campaign 16 = .ok (.getfield 23, 3) := by decide +kernel
theorem d_T_campaign_19 : decode b_T_campaign 19 = .ok (.iload_n 1, 1) := by decide +kernel
theorem d_T_campaign_20 : decode b_T_campaign 20 = .ok (.iaload, 1) := by decide +kernel
theorem d_T_campaign_21 : decode b_T_campaign 21 = .ok (.goto 9, 3) := by decide +kernel
theorem d_T_campaign_24 : decode b_T_campaign 24 = .ok (.aload_n 0, 1) := by decide +kernel
theorem d_T_campaign_25 : decode b_T_campaign 25 = .ok (.getfield 53, 3) := by decide +kernel
theorem d_T_campaign_28 : decode b_T_campaign 28 = .ok (.iload_n 1, 1) := by decide +kernel
theorem d_T_campaign_29 : decode b_T_campaign 29 = .ok (.iaload, 1) := by decide +kernel
theorem d_T_campaign_30 : decode b_T_campaign 30 = .ok (.istore_n 2, 1) := by decide +kernel
theorem d_T_campaign_31 : decode b_T_campaign 31 = .ok (.iload_n 1, 1) := by decide +kernel
theorem d_T_campaign_32 : decode b_T_campaign 32 = .ok (.ifCond .ne 10, 3) := by decide +kernel
theorem d_T_campaign_35 : decode b_T_campaign 35 = .ok (.aload_n 0, 1) := by decide +kernel
theorem d_T_campaign_36 : decode b_T_campaign 36 = .ok (.getfield 65, 3) := by decide +kernel
theorem d_T_campaign_39 : decode b_T_campaign 39 = .ok (.goto 4, 3) := by decide +kernel
theorem d_T_campaign_42 : decode b_T_campaign 42 = .ok (.iload_n 1, 1) := by decide +kernel
theorem d_T_campaign_43 : decode b_T_campaign 43 = .ok (.istore_n 3, 1) := by decide +kernel
theorem d_T_campaign_44 : decode b_T_campaign 44 = .ok (.iload_n 3, 1) := by decide +kernel
theorem d_T_campaign_45 : decode b_T_campaign 45 = .ok (.iload_n 2, 1) := by decide +kernel
theorem d_T_campaign_46 : decode b_T_campaign 46 = .ok (.if_icmp .gt 13, 3) := by decide +kernel
theorem d_T_campaign_49 : decode b_T_campaign 49 = .ok (.iload_n 3, 1) := by decide +kernel
theorem d_T_campaign_50 : decode b_T_campaign 50 = .ok (.aload_n 0, 1) := by decide +kernel
theorem d_T_campaign_51 : decode b_T_campaign 51 = .ok (.getfield 65, 3) := by decide +kernel
theorem d_T_campaign_54 : decode b_T_campaign 54 = .ok (.iadd, 1) := by decide +kernel
theorem d_T_campaign_55 : decode b_T_campaign 55 = .ok (.istore_n 3, 1) := by decide +kernel
theorem d_T_campaign_56 : decode b_T_campaign 56 = .ok (.goto (-12), 3) := by decide +kernel
theorem d_T_campaign_59 : decode b_T_campaign 59 = .ok (.aload_n 0, 1) := by decide +kernel
theorem d_T_campaign_60 : decode b_T_campaign 60 = .ok (.iload_n 1, 1) := by decide +kernel
theorem d_T_campaign_61 : decode b_T_campaign 61 = .ok (.invokevirtual 92, 3) := by decide +kernel
theorem d_T_campaign_64 : decode b_T_campaign 64 = .ok (.aload_n 0, 1) := by decide +kernel
theorem d_T_campaign_65 : decode b_T_campaign 65 = .ok (.getfield 23, 3) := by decide +kernel
theorem d_T_campaign_68 : decode b_T_campaign 68 = .ok (.iload_n 1, 1) := by decide +kernel
theorem d_T_campaign_69 : decode b_T_campaign 69 = .ok (.iload_n 3, 1) := by decide +kernel
theorem d_T_campaign_70 : decode b_T_campaign 70 = .ok (.iastore, 1) := by decide +kernel
theorem d_T_campaign_71 : decode b_T_campaign 71 = .ok (.aload_n 0, 1) := by decide +kernel
theorem d_T_campaign_72 : decode b_T_campaign 72 = .ok (.getfield 35, 3) := by decide +kernel
theorem d_T_campaign_75 : decode b_T_campaign 75 = .ok (.iload_n 1, 1) := by decide +kernel
theorem d_T_campaign_76 : decode b_T_campaign 76 = .ok (.iconst 1, 1) := by decide +kernel
theorem d_T_campaign_77 : decode b_T_campaign 77 = .ok (.iastore, 1) := by decide +kernel
theorem d_T_campaign_78 : decode b_T_campaign 78 = .ok (.aload_n 0, 1) := by decide +kernel
theorem d_T_campaign_79 : decode b_T_campaign 79 = .ok (.getfield 38, 3) := by decide +kernel
theorem d_T_campaign_82 : decode b_T_campaign 82 = .ok (.iload_n 1, 1) := by decide +kernel
theorem d_T_campaign_83 : decode b_T_campaign 83 = .ok (.iload_n 3, 1) := by decide +kernel
theorem d_T_campaign_84 : decode b_T_campaign 84 = .ok (.iastore, 1) := by decide +kernel
theorem d_T_campaign_85 : decode b_T_campaign 85 = .ok (.aload_n 0, 1) := by decide +kernel
theorem d_T_campaign_86 : decode b_T_campaign 86 = .ok (.getfield 41, 3) := by decide +kernel
theorem d_T_campaign_89 : decode b_T_campaign 89 = .ok (.iload_n 1, 1) := by decide +kernel
theorem d_T_campaign_90 : decode b_T_campaign 90 = .ok (.iconst 1, 1) := by decide +kernel
theorem d_T_campaign_91 : decode b_T_campaign 91 = .ok (.iload_n 1, 1) := by decide +kernel
theorem d_T_campaign_92 : decode b_T_campaign 92 = .ok (.ishl, 1) := by decide +kernel
theorem d_T_campaign_93 : decode b_T_campaign 93 = .ok (.iastore, 1) := by decide +kernel
theorem d_T_campaign_94 : decode b_T_campaign 94 = .ok (.aload_n 0, 1) := by decide +kernel
theorem d_T_campaign_95 : decode b_T_campaign 95 = .ok (.getfield 47, 3) := by decide +kernel
theorem d_T_campaign_98 : decode b_T_campaign 98 = .ok (.iload_n 1, 1) := by decide +kernel
theorem d_T_campaign_99 : decode b_T_campaign 99 = .ok (.aload_n 0, 1) := by decide +kernel
theorem d_T_campaign_100 : decode b_T_campaign 100 = .ok (.getfield 29, 3) := by decide +kernel
theorem d_T_campaign_103 : decode b_T_campaign 103 = .ok (.iload_n 1, 1) := by decide +kernel
theorem d_T_campaign_104 : decode b_T_campaign 104 = .ok (.iaload, 1) := by decide +kernel
theorem d_T_campaign_105 : decode b_T_campaign 105 = .ok (.iastore, 1) := by decide +kernel
theorem d_T_campaign_106 : decode b_T_campaign 106 = .ok (.aload_n 0, 1) := by decide +kernel
theorem d_T_campaign_107 : decode b_T_campaign 107 = .ok (.getfield 50, 3) := by decide +kernel
theorem d_T_campaign_110 : decode b_T_campaign 110 = .ok (.iload_n 1, 1) := by decide +kernel
theorem d_T_campaign_111 : decode b_T_campaign 111 = .ok (.aload_n 0, 1) := by decide +kernel
theorem d_T_campaign_112 : decode b_T_campaign 112 = .ok (.getfield 26, 3) := by decide +kernel
theorem d_T_campaign_115 : decode b_T_campaign 115 = .ok (.iload_n 1, 1) := by decide +kernel
theorem d_T_campaign_116 : decode b_T_campaign 116 = .ok (.iaload, 1) := by decide +kernel
theorem d_T_campaign_117 : decode b_T_campaign 117 = .ok (.iastore, 1) := by decide +kernel
theorem d_T_campaign_118 : decode b_T_campaign 118 = .ok (.aload_n 0, 1) := by decide +kernel
theorem d_T_campaign_119 : decode b_T_campaign 119 = .ok (.iconst 1, 1) := by decide +kernel
theorem d_T_campaign_120 : decode b_T_campaign 120 = .ok (.iload_n 1, 1) := by decide +kernel
theorem d_T_campaign_121 : decode b_T_campaign 121 = .ok (.iload_n 3, 1) := by decide +kernel
theorem d_T_campaign_122 : decode b_T_campaign 122 = .ok (.aload_n 0, 1) := by decide +kernel
theorem d_T_campaign_123 : decode b_T_campaign 123 = .ok (.getfield 13, 3) := by decide +kernel
theorem d_T_campaign_126 : decode b_T_campaign 126 = .ok (.iload_n 1, 1) := by decide +kernel
theorem d_T_campaign_127 : decode b_T_campaign 127 = .ok (.iaload, 1) := by decide +kernel
theorem d_T_campaign_128 : decode b_T_campaign 128 = .ok (.iconst 1, 1) := by decide +kernel
theorem d_T_campaign_129 : decode b_T_campaign 129 = .ok (.iadd, 1) := by decide +kernel
theorem d_T_campaign_130 : decode b_T_campaign 130 = .ok (.iconst 0, 1) := by decide +kernel
theorem d_T_campaign_131 : decode b_T_campaign 131 = .ok (.invokevirtual 96, 3) := by decide +kernel
theorem d_T_campaign_134 : decode b_T_campaign 134 = .ok (.return_, 1) := by decide +kernel
theorem d_T_proposeIt_0 : decode b_T_proposeIt 0 = .ok (.aload_n 0, 1) := by decide +kernel
theorem d_T_proposeIt_1 : decode b_T_proposeIt 1 = .ok (.getfield 44, 3) := by decide +kernel
theorem d_T_proposeIt_4 : decode b_T_proposeIt 4 = .ok (.iload_n 1, 1) := by decide +kernel
theorem d_T_proposeIt_5 : decode b_T_proposeIt 5 = .ok (.iload_n 2, 1) := by decide +kernel
theorem d_T_proposeIt_6 : decode b_T_proposeIt 6 = .ok (.iastore, 1) := by decide +kernel
theorem d_T_proposeIt_7 : decode b_T_proposeIt 7 = .ok (.aload_n 0, 1) := by decide +kernel
theorem d_T_proposeIt_8 : decode b_T_proposeIt 8 = .ok (.getfield 29, 3) := by decide +kernel
theorem d_T_proposeIt_11 : decode b_T_proposeIt 11 = .ok (.iload_n 1, 1) := by decide +kernel
theorem d_T_proposeIt_12 : decode b_T_proposeIt 12 = .ok (.iload_n 2, 1) := by decide +kernel
theorem d_T_proposeIt_13 : decode b_T_proposeIt 13 = .ok (.iastore, 1) := by decide +kernel
theorem d_T_proposeIt_14 : decode b_T_proposeIt 14 = .ok (.aload_n 0, 1) := by decide +kernel
theorem d_T_proposeIt_15 : decode b_T_proposeIt 15 = .ok (.getfield 26, 3) := by decide +kernel
theorem d_T_proposeIt_18 : decode b_T_proposeIt 18 = .ok (.iload_n 1, 1) := by decide +kernel
theorem d_T_proposeIt_19 : decode b_T_proposeIt 19 = .ok (.aload_n 0, 1) := by decide +kernel
theorem d_T_proposeIt_20 : decode b_T_proposeIt 20 = .ok (.getfield 38, 3) := by decide +kernel
theorem d_T_proposeIt_23 : decode b_T_proposeIt 23 = .ok (.iload_n 1, 1) := by decide +kernel
theorem d_T_proposeIt_24 : decode b_T_proposeIt 24 = .ok (.iaload, 1) := by decide +kernel
theorem d_T_proposeIt_25 : decode b_T_proposeIt 25 = .ok (.iastore, 1) := by decide +kernel
theorem d_T_proposeIt_26 : decode b_T_proposeIt 26 = .ok (.aload_n 0, 1) := by decide +kernel
theorem d_T_proposeIt_27 : decode b_T_proposeIt 27 = .ok (.getfield 41, 3) := by decide +kernel
theorem d_T_proposeIt_30 : decode b_T_proposeIt 30 = .ok (.iload_n 1, 1) := by decide +kernel
theorem d_T_proposeIt_31 : decode b_T_proposeIt 31 = .ok (.iconst 1, 1) := by decide +kernel
theorem d_T_proposeIt_32 : decode b_T_proposeIt 32 = .ok (.iload_n 1, 1) := by decide +kernel
theorem d_T_proposeIt_33 : decode b_T_proposeIt 33 = .ok (.ishl, 1) := by decide +kernel
theorem d_T_proposeIt_34 : decode b_T_proposeIt 34 = .ok (.iastore, 1) := by decide +kernel
theorem d_T_proposeIt_35 : decode b_T_proposeIt 35 = .ok (.aload_n 0, 1) := by decide +kernel
theorem d_T_proposeIt_36 : decode b_T_proposeIt 36 = .ok (.iconst 3, 1) := by decide +kernel
theorem d_T_proposeIt_37 : decode b_T_proposeIt 37 = .ok (.iload_n 1, 1) := by decide +kernel
theorem d_T_proposeIt_38 : decode b_T_proposeIt 38 = .ok (.aload_n 0, 1) := by decide +kernel
theorem d_T_proposeIt_39 : decode b_T_proposeIt 39 = .ok (.getfield 38, 3) := by decide +kernel
theorem d_T_proposeIt_42 : decode b_T_proposeIt 42 = .ok (.iload_n 1, 1) := by decide +kernel
theorem d_T_proposeIt_43 : decode b_T_proposeIt 43 = .ok (.iaload, 1) := by decide +kernel
theorem d_T_proposeIt_44 : decode b_T_proposeIt 44 = .ok (.aload_n 0, 1) := by decide +kernel
theorem d_T_proposeIt_45 : decode b_T_proposeIt 45 = .ok (.getfield 13, 3) := by decide +kernel
theorem d_T_proposeIt_48 : decode b_T_proposeIt 48 = .ok (.iload_n 1, 1) := by decide +kernel
theorem d_T_proposeIt_49 : decode b_T_proposeIt 49 = .ok (.iaload, 1) := by decide +kernel
theorem d_T_proposeIt_50 : decode b_T_proposeIt 50 = .ok (.iconst 1, 1) := by decide +kernel
theorem d_T_proposeIt_51 : decode b_T_proposeIt 51 = .ok (.iadd, 1) := by decide +kernel
theorem d_T_proposeIt_52 : decode b_T_proposeIt 52 = .ok (.iload_n 2, 1) := by decide +kernel
theorem d_T_proposeIt_53 : decode b_T_proposeIt 53 = .ok (.invokevirtual 96, 3) := by decide +kernel
theorem d_T_proposeIt_56 : decode b_T_proposeIt 56 = .ok (.return_, 1) := by decide +kernel
theorem d_T_propose_0 : decode b_T_propose 0 = .ok (.aload_n 0, 1) := by decide +kernel
theorem d_T_propose_1 : decode b_T_propose 1 = .ok (.getfield 59, 3) := by decide +kernel
theorem d_T_propose_4 : decode b_T_propose 4 = .ok (.iload_n 1, 1) := by decide +kernel
theorem d_T_propose_5 : decode b_T_propose 5 = .ok (.iaload, 1) := by decide +kernel
theorem d_T_propose_6 : decode b_T_propose 6 = .ok (.ifCond .le 17, 3) := by decide +kernel
theorem d_T_propose_9 : decode b_T_propose 9 = .ok (.aload_n 0, 1) := by decide +kernel
theorem d_T_propose_10 : decode b_T_propose 10 = .ok (.iload_n 1, 1) := by decide +kernel
theorem d_T_propose_11 : decode b_T_propose 11 = .ok (.aload_n 0, 1) := by decide +kernel
theorem d_T_propose_12 : decode b_T_propose 12 = .ok (.getfield 56, 3) := by decide +kernel
theorem d_T_propose_15 : decode b_T_propose 15 = .ok (.bipush 8, 2) := by decide +kernel
theorem d_T_propose_17 : decode b_T_propose 17 = .ok (.iload_n 1, 1) := by decide +kernel
theorem d_T_propose_18 : decode b_T_propose 18 = .ok (.imul, 1) := by decide +kernel
theorem d_T_propose_19 : decode b_T_propose 19 = .ok (.iaload, 1) := by decide +kernel
theorem d_T_propose_20 : decode b_T_propose 20 = .ok (.invokevirtual 100, 3) := by decide +kernel
theorem d_T_propose_23 : decode b_T_propose 23 = .ok (.return_, 1) := by decide +kernel
theorem d_T_learn_0 : decode b_T_learn 0 = .ok (.aload_n 0, 1) := by decide +kernel
theorem d_T_learn_1 : decode b_T_learn 1 = .ok (.getfield 13, 3) := by decide +kernel
theorem d_T_learn_4 : decode b_T_learn 4 = .ok (.iload_n 1, 1) := by decide +kernel
theorem d_T_learn_5 : decode b_T_learn 5 = .ok (.dup2, 1) := by decide +kernel
theorem d_T_learn_6 : decode b_T_learn 6 = .ok (.iaload, 1) := by decide +kernel
