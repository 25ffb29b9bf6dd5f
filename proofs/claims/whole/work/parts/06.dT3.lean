theorem d_T_deliver_79 : decode b_T_deliver 79 = .ok (.istore 8, 2) := by decide +kernel
theorem d_T_deliver_81 : decode b_T_deliver 81 = .ok (.aload_n 0, 1) := by decide +kernel
theorem d_T_deliver_82 : decode b_T_deliver 82 = .ok (.getfield 62, 3) := by decide +kernel
theorem d_T_deliver_85 : decode b_T_deliver 85 = .ok (.iload_n 2, 1) := by decide +kernel
theorem d_T_deliver_86 : decode b_T_deliver 86 = .ok (.bipush 6, 2) := by decide +kernel
theorem d_T_deliver_88 : decode b_T_deliver 88 = .ok (.iadd, 1) := by decide +kernel
theorem d_T_deliver_89 : decode b_T_deliver 89 = .ok (.iaload, 1) := by decide +kernel
theorem d_T_deliver_90 : decode b_T_deliver 90 = .ok (.istore 9, 2) := by decide +kernel
theorem d_T_deliver_92 : decode b_T_deliver 92 = .ok (.aload_n 0, 1) := by decide +kernel
theorem d_T_deliver_93 : decode b_T_deliver 93 = .ok (.iload_n 1, 1) := by decide +kernel
theorem d_T_deliver_94 : decode b_T_deliver 94 = .ok (.invokevirtual 141, 3) := by decide +kernel
theorem d_T_deliver_97 : decode b_T_deliver 97 = .ok (.aload_n 0, 1) := by decide +kernel
theorem d_T_deliver_98 : decode b_T_deliver 98 = .ok (.getfield 7, 3) := by decide +kernel
theorem d_T_deliver_101 : decode b_T_deliver 101 = .ok (.iload 5, 2) := by decide +kernel
theorem d_T_deliver_103 : decode b_T_deliver 103 = .ok (.baload, 1) := by decide +kernel
theorem d_T_deliver_104 : decode b_T_deliver 104 = .ok (.ifCond .eq 20, 3) := by decide +kernel
theorem d_T_deliver_107 : decode b_T_deliver 107 = .ok (.aload_n 0, 1) := by decide +kernel
theorem d_T_deliver_108 : decode b_T_deliver 108 = .ok (.iload_n 3, 1) := by decide +kernel
theorem d_T_deliver_109 : decode b_T_deliver 109 = .ok (.iload 4, 2) := by decide +kernel
theorem d_T_deliver_111 : decode b_T_deliver 111 = .ok (.iload 5, 2) := by decide +kernel
theorem d_T_deliver_113 : decode b_T_deliver 113 = .ok (.iload 6, 2) := by decide +kernel
theorem d_T_deliver_115 : decode b_T_deliver 115 = .ok (.iload 7, 2) := by decide +kernel
theorem d_T_deliver_117 : decode b_T_deliver 117 = .ok (.iload 8, 2) := by decide +kernel
theorem d_T_deliver_119 : decode b_T_deliver 119 = .ok (.iload 9, 2) := by decide +kernel
theorem d_T_deliver_121 : decode b_T_deliver 121 = .ok (.invokevirtual 144, 3) := by decide +kernel
theorem d_T_deliver_124 : decode b_T_deliver 124 = .ok (.iload_n 3, 1) := by decide +kernel
theorem d_T_deliver_125 : decode b_T_deliver 125 = .ok (.ireturn, 1) := by decide +kernel
theorem d_T_lose_0 : decode b_T_lose 0 = .ok (.aload_n 0, 1) := by decide +kernel
theorem d_T_lose_1 : decode b_T_lose 1 = .ok (.iconst 0, 1) := by decide +kernel
theorem d_T_lose_2 : decode b_T_lose 2 = .ok (.putfield 72, 3) := by decide +kernel
theorem d_T_lose_5 : decode b_T_lose 5 = .ok (.iload_n 1, 1) := by decide +kernel
theorem d_T_lose_6 : decode b_T_lose 6 = .ok (.ifCond .lt 11, 3) := by decide +kernel
theorem d_T_lose_9 : decode b_T_lose 9 = .ok (.iload_n 1, 1) := by decide +kernel
theorem d_T_lose_10 : decode b_T_lose 10 = .ok (.aload_n 0, 1) := by decide +kernel
theorem d_T_lose_11 : decode b_T_lose 11 = .ok (.getfield 82, 3) := by decide +kernel
theorem d_T_lose_14 : decode b_T_lose 14 = .ok (.if_icmp .lt 5, 3) := by decide +kernel
theorem d_T_lose_17 : decode b_T_lose 17 = .ok (.iconst 0, 1) := by decide +kernel
theorem d_T_lose_18 : decode b_T_lose 18 = .ok (.ireturn, 1) := by decide +kernel
theorem d_T_lose_19 : decode b_T_lose 19 = .ok (.aload_n 0, 1) := by decide +kernel
theorem d_T_lose_20 : decode b_T_lose 20 = .ok (.iload_n 1, 1) := by decide +kernel
theorem d_T_lose_21 : decode b_T_lose 21 = .ok (.invokevirtual 141, 3) := by decide +kernel
theorem d_T_lose_24 : decode b_T_lose 24 = .ok (.iconst 1, 1) := by decide +kernel
theorem d_T_lose_25 : decode b_T_lose 25 = .ok (.ireturn, 1) := by decide +kernel
theorem d_T_twice_0 : decode b_T_twice 0 = .ok (.aload_n 0, 1) := by decide +kernel
theorem d_T_twice_1 : decode b_T_twice 1 = .ok (.iconst 0, 1) := by decide +kernel
theorem d_T_twice_2 : decode b_T_twice 2 = .ok (.putfield 72, 3) := by decide +kernel
theorem d_T_twice_5 : decode b_T_twice 5 = .ok (.iload_n 1, 1) := by decide +kernel
theorem d_T_twice_6 : decode b_T_twice 6 = .ok (.ifCond .lt 21, 3) := by decide +kernel
theorem d_T_twice_9 : decode b_T_twice 9 = .ok (.iload_n 1, 1) := by decide +kernel
theorem d_T_twice_10 : decode b_T_twice 10 = .ok (.aload_n 0, 1) := by decide +kernel
theorem d_T_twice_11 : decode b_T_twice 11 = .ok (.getfield 82, 3) := by decide +kernel
theorem d_T_twice_14 : decode b_T_twice 14 = .ok (.if_icmp .ge 13, 3) := by decide +kernel
theorem d_T_twice_17 : decode b_T_twice 17 = .ok (.aload_n 0, 1) := by decide +kernel
theorem d_T_twice_18 : decode b_T_twice 18 = .ok (.getfield 82, 3) := by decide +kernel
theorem d_T_twice_21 : decode b_T_twice 21 = .ok (.sipush 200, 3) := by decide +kernel
theorem d_T_twice_24 : decode b_T_twice 24 = .ok (.if_icmp .ne 5, 3) := by decide +kernel
theorem d_T_twice_27 : decode b_T_twice 27 = .ok (.iconst 0, 1) := by decide +kernel
theorem d_T_twice_28 : decode b_T_twice 28 = .ok (.ireturn, 1) := by decide +kernel
theorem d_T_twice_29 : decode b_T_twice 29 = .ok (.iconst 0, 1) := by decide +kernel
theorem d_T_twice_30 : decode b_T_twice 30 = .ok (.istore_n 2, 1) := by decide +kernel
theorem d_T_twice_31 : decode b_T_twice 31 = .ok (.iload_n 2, 1) := by decide +kernel
theorem d_T_twice_32 : decode b_T_twice 32 = .ok (.bipush 7, 2) := by decide +kernel
theorem d_T_twice_34 : decode b_T_twice 34 = .ok (.if_icmp .ge 34, 3) := by decide +kernel
theorem d_T_twice_37 : decode b_T_twice 37 = .ok (.aload_n 0, 1) := by decide +kernel
theorem d_T_twice_38 : decode b_T_twice 38 = .ok (.getfield 62, 3) := by decide +kernel
theorem d_T_twice_41 : decode b_T_twice 41 = .ok (.bipush 7, 2) := by decide +kernel
theorem d_T_twice_43 : decode b_T_twice 43 = .ok (.aload_n 0, 1) := by decide +kernel
theorem d_T_twice_44 : decode b_T_twice 44 = .ok (.getfield 82, 3) := by decide +kernel
theorem d_T_twice_47 : decode b_T_twice 47 = .ok (.imul, 1) := by decide +kernel
theorem d_T_twice_48 : decode b_T_twice 48 = .ok (.iload_n 2, 1) := by decide +kernel
theorem d_T_twice_49 : decode b_T_twice 49 = .ok (.iadd, 1) := by decide +kernel
theorem d_T_twice_50 : decode b_T_twice 50 = .ok (.aload_n 0, 1) := by decide +kernel
theorem d_T_twice_51 : decode b_T_twice 51 = .ok (.getfield 62, 3) := by decide +kernel
theorem d_T_twice_54 : decode b_T_twice 54 = .ok (.bipush 7, 2) := by decide +kernel
theorem d_T_twice_56 : decode b_T_twice 56 = .ok (.iload_n 1, 1) := by decide +kernel
theorem d_T_twice_57 : decode b_T_twice 57 = .ok (.imul, 1) := by decide +kernel
theorem d_T_twice_58 : decode b_T_twice 58 = .ok (.iload_n 2, 1) := by decide +kernel
theorem d_T_twice_59 : decode b_T_twice 59 = .ok (.iadd, 1) := by decide +kernel
theorem d_T_twice_60 : decode b_T_twice 60 = .ok (.iaload, 1) := by decide +kernel
theorem d_T_twice_61 : decode b_T_twice 61 = .ok (.iastore, 1) := by decide +kernel
theorem d_T_twice_62 : decode b_T_twice 62 = .ok (.iinc 2 1, 3) := by decide +kernel
theorem d_T_twice_65 : decode b_T_twice 65 = .ok (.goto (-34), 3) := by decide +kernel
theorem d_T_twice_68 : decode b_T_twice 68 = .ok (.aload_n 0, 1) := by decide +kernel
theorem d_T_twice_69 : decode b_T_twice 69 = .ok (.dup, 1) := by decide +kernel
theorem d_T_twice_70 : decode b_T_twice 70 = .ok (.getfield 82, 3) := by decide +kernel
theorem d_T_twice_73 : decode b_T_twice 73 = .ok (.iconst 1, 1) := by decide +kernel
theorem d_T_twice_74 : decode b_T_twice 74 = .ok (.iadd, 1) := by decide +kernel
theorem d_T_twice_75 : decode b_T_twice 75 = .ok (.putfield 82, 3) := by decide +kernel
theorem d_T_twice_78 : decode b_T_twice 78 = .ok (.iconst 1, 1) := by decide +kernel
theorem d_T_twice_79 : decode b_T_twice 79 = .ok (.ireturn, 1) := by decide +kernel
theorem d_T_turn_0 : decode b_T_turn 0 = .ok (.aload_n 0, 1) := by decide +kernel
theorem d_T_turn_1 : decode b_T_turn 1 = .ok (.iconst 0, 1) := by decide +kernel
theorem d_T_turn_2 : decode b_T_turn 2 = .ok (.putfield 72, 3) := by decide +kernel
theorem d_T_turn_5 : decode b_T_turn 5 = .ok (.aload_n 0, 1) := by decide +kernel
theorem d_T_turn_6 : decode b_T_turn 6 = .ok (.iload_n 1, 1) := by decide +kernel
theorem d_T_turn_7 : decode b_T_turn 7 = .ok (.invokevirtual 75, 3) := by decide +kernel
theorem d_T_turn_10 : decode b_T_turn 10 = .ok (.ifCond .eq 25, 3) := by decide +kernel
theorem d_T_turn_13 : decode b_T_turn 13 = .ok (.aload_n 0, 1) := by decide +kernel
theorem d_T_turn_14 : decode b_T_turn 14 = .ok (.getfield 7, 3) := by decide +kernel
theorem d_T_turn_17 : decode b_T_turn 17 = .ok (.aload_n 0, 1) := by decide +kernel
theorem d_T_turn_18 : decode b_T_turn 18 = .ok (.iload_n 1, 1) := by decide +kernel
theorem d_T_turn_19 : decode b_T_turn 19 = .ok (.invokevirtual 75, 3) := by decide +kernel
theorem d_T_turn_22 : decode b_T_turn 22 = .ok (.ifCond .eq 7, 3) := by decide +kernel
theorem d_T_turn_25 : decode b_T_turn 25 = .ok (.iload_n 1, 1) := by decide +kernel
theorem d_T_turn_26 : decode b_T_turn 26 = .ok (.goto 4, 3) := by decide +kernel
theorem d_T_turn_29 : decode b_T_turn 29 = .ok (.iconst 0, 1) := by decide +kernel
theorem d_T_turn_30 : decode b_T_turn 30 = .ok (.baload, 1) := by decide +kernel
theorem d_T_turn_31 : decode b_T_turn 31 = .ok (.iload_n 2, 1) := by decide +kernel
theorem d_T_turn_32 : decode b_T_turn 32 = .ok (.if_icmp .ne 5, 3) := by decide +kernel
theorem d_T_turn_35 : decode b_T_turn 35 = .ok (.iconst 0, 1) := by decide +kernel
theorem d_T_turn_36 : decode b_T_turn 36 = .ok (.ireturn, 1) := by decide +kernel
theorem d_T_turn_37 : decode b_T_turn 37 = .ok (.aload_n 0, 1) := by decide +kernel
theorem d_T_turn_38 : decode b_T_turn 38 = .ok (.getfield 7, 3) := by decide +kernel
theorem d_T_turn_41 : decode b_T_turn 41 = .ok (.iload_n 1, 1) := by decide +kernel
theorem d_T_turn_42 : decode b_T_turn 42 = .ok (.iload_n 2, 1) := by decide +kernel
theorem d_T_turn_43 : decode b_T_turn 43 = .ok (.bastore, 1) := by decide +kernel
theorem d_T_turn_44 : decode b_T_turn 44 = .ok (.aload_n 0, 1) := by decide +kernel
theorem d_T_turn_45 : decode b_T_turn 45 = .ok (.iload_n 1, 1) := by decide +kernel
theorem d_T_turn_46 : decode b_T_turn 46 = .ok (.invokevirtual 92, 3) := by decide +kernel
theorem d_T_turn_49 : decode b_T_turn 49 = .ok (.aload_n 0, 1) := by decide +kernel
theorem d_T_turn_50 : decode b_T_turn 50 = .ok (.getfield 59, 3) := by decide +kernel
theorem d_T_turn_53 : decode b_T_turn 53 = .ok (.iload_n 1, 1) := by decide +kernel
theorem d_T_turn_54 : decode b_T_turn 54 = .ok (.iconst 0, 1) := by decide +kernel
theorem d_T_turn_55 : decode b_T_turn 55 = .ok (.iastore, 1) := by decide +kernel
theorem d_T_turn_56 : decode b_T_turn 56 = .ok (.aload_n 0, 1) := by decide +kernel
theorem d_T_turn_57 : decode b_T_turn 57 = .ok (.getfield 53, 3) := by decide +kernel
theorem d_T_turn_60 : decode b_T_turn 60 = .ok (.iload_n 1, 1) := by decide +kernel
theorem d_T_turn_61 : decode b_T_turn 61 = .ok (.aload_n 0, 1) := by decide +kernel
theorem d_T_turn_62 : decode b_T_turn 62 = .ok (.getfield 23, 3) := by decide +kernel
theorem d_T_turn_65 : decode b_T_turn 65 = .ok (.iload_n 1, 1) := by decide +kernel
theorem d_T_turn_66 : decode b_T_turn 66 = .ok (.iaload, 1) := by decide +kernel
theorem d_T_turn_67 : decode b_T_turn 67 = .ok (.iastore, 1) := by decide +kernel
theorem d_T_turn_68 : decode b_T_turn 68 = .ok (.iconst 1, 1) := by decide +kernel
theorem d_T_turn_69 : decode b_T_turn 69 = .ok (.ireturn, 1) := by decide +kernel
theorem d_T_replica_0 : decode b_T_replica 0 = .ok (.aload_n 0, 1) := by decide +kernel
theorem d_T_replica_1 : decode b_T_replica 1 = .ok (.iconst 0, 1) := by decide +kernel
theorem d_T_replica_2 : decode b_T_replica 2 = .ok (.putfield 72, 3) := by decide +kernel
theorem d_T_replica_5 : decode b_T_replica 5 = .ok (.aload_n 0, 1) := by decide +kernel
theorem d_T_replica_6 : decode b_T_replica 6 = .ok (.iload_n 1, 1) := by decide +kernel
theorem d_T_replica_7 : decode b_T_replica 7 = .ok (.invokevirtual 75, 3) := by decide +kernel
theorem d_T_replica_10 : decode b_T_replica 10 = .ok (.ifCond .eq 40, 3) := by decide +kernel
theorem d_T_replica_13 : decode b_T_replica 13 = .ok (.iload_n 2, 1) := by decide +kernel
theorem d_T_replica_14 : decode b_T_replica 14 = .ok (.ifCond .lt 36, 3) := by decide +kernel
theorem d_T_replica_17 : decode b_T_replica 17 = .ok (.iload_n 2, 1) := by decide +kernel
theorem d_T_replica_18 : decode b_T_replica 18 = .ok (.bipush 12, 2) := by decide +kernel
theorem d_T_replica_20 : decode b_T_replica 20 = .ok (.if_icmp .gt 30, 3) := by decide +kernel
theorem d_T_replica_23 : decode b_T_replica 23 = .ok (.iload_n 2, 1) := by decide +kernel
theorem d_T_replica_24 : decode b_T_replica 24 = .ok (.bipush 6, 2) := by decide +kernel
theorem d_T_replica_26 : decode b_T_replica 26 = .ok (.if_icmp .le 26, 3) := by decide +kernel
theorem d_T_replica_29 : decode b_T_replica 29 = .ok (.aload_n 0, 1) := by decide +kernel
theorem d_T_replica_30 : decode b_T_replica 30 = .ok (.getfield 7, 3) := by decide +kernel
theorem d_T_replica_33 : decode b_T_replica 33 = .ok (.aload_n 0, 1) := by decide +kernel
theorem d_T_replica_34 : decode b_T_replica 34 = .ok (.iload_n 1, 1) := by decide +kernel
theorem d_T_replica_35 : decode b_T_replica 35 = .ok (.invokevirtual 75, 3) := by decide +kernel
theorem d_T_replica_38 : decode b_T_replica 38 = .ok (.ifCond .eq 7, 3) := by decide +kernel
theorem d_T_replica_41 : decode b_T_replica 41 = .ok (.iload_n 1, 1) := by decide +kernel
theorem d_T_replica_42 : decode b_T_replica 42 = .ok (.goto 4, 3) := by decide +kernel
theorem d_T_replica_45 : decode b_T_replica 45 = .ok (.iconst 0, 1) := by decide +kernel
theorem d_T_replica_46 : decode b_T_replica 46 = .ok (.baload, 1) := by decide +kernel
theorem d_T_replica_47 : decode b_T_replica 47 = .ok (.ifCond .ne 5, 3) := by decide +kernel
theorem d_T_replica_50 : decode b_T_replica 50 = .ok (.iconst (-1), 1) := by decide +kernel
theorem d_T_replica_51 : decode b_T_replica 51 = .ok (.ireturn, 1) := by decide +kernel
theorem d_T_replica_52 : decode b_T_replica 52 = .ok (.iload_n 2, 1) := by decide +kernel
theorem d_T_replica_53 : decode b_T_replica 53 = .ok (.tableswitch 191 0 11 #[63, 78, 85, 92, 99, 106, 126, 133, 140, 147, 177, 184], 63) := by decide +kernel
theorem d_T_replica_116 : decode b_T_replica 116 = .ok (.aload_n 0, 1) := by decide +kernel
theorem d_T_replica_117 : decode b_T_replica 117 = .ok (.getfield 7, 3) := by decide +kernel
theorem d_T_replica_120 : decode b_T_replica 120 = .ok (.iload_n 1, 1) := by decide +kernel
theorem d_T_replica_121 : decode b_T_replica 121 = .ok (.baload, 1) := by decide +kernel
theorem d_T_replica_122 : decode b_T_replica 122 = .ok (.ifCond .eq 7, 3) := by decide +kernel
theorem d_T_replica_125 : decode b_T_replica 125 = .ok (.iconst 1, 1) := by decide +kernel
theorem d_T_replica_126 : decode b_T_replica 126 = .ok (.goto 4, 3) := by decide +kernel
theorem d_T_replica_129 : decode b_T_replica 129 = .ok (.iconst 0, 1) := by decide +kernel
theorem d_T_replica_130 : decode b_T_replica 130 = .ok (.ireturn, 1) := by decide +kernel
theorem d_T_replica_131 : decode b_T_replica 131 = .ok (.aload_n 0, 1) := by decide +kernel
theorem d_T_replica_132 : decode b_T_replica 132 = .ok (.getfield 13, 3) := by decide +kernel
theorem d_T_replica_135 : decode b_T_replica 135 = .ok (.iload_n 1, 1) := by decide +kernel
theorem d_T_replica_136 : decode b_T_replica 136 = .ok (.iaload, 1) := by decide +kernel
theorem d_T_replica_137 : decode b_T_replica 137 = .ok (.ireturn, 1) := by decide +kernel
theorem d_T_replica_138 : decode b_T_replica 138 = .ok (.aload_n 0, 1) := by decide +kernel
theorem d_T_replica_139 : decode b_T_replica 139 = .ok (.getfield 17, 3) := by decide +kernel
theorem d_T_replica_142 : decode b_T_replica 142 = .ok (.iload_n 1, 1) := by decide +kernel
theorem d_T_replica_143 : decode b_T_replica 143 = .ok (.iaload, 1) := by decide +kernel
theorem d_T_replica_144 : decode b_T_replica 144 = .ok (.ireturn, 1) := by decide +kernel
theorem d_T_replica_145 : decode b_T_replica 145 = .ok (.aload_n 0, 1) := by decide +kernel
theorem d_T_replica_146 : decode b_T_replica 146 = .ok (.getfield 20, 3) := by decide +kernel
theorem d_T_replica_149 : decode b_T_replica 149 = .ok (.iload_n 1, 1) := by decide +kernel
theorem d_T_replica_150 : decode b_T_replica 150 = .ok (.iaload, 1) := by decide +kernel
theorem d_T_replica_151 : decode b_T_replica 151 = .ok (.ireturn, 1) := by decide +kernel
theorem d_T_replica_152 : decode b_T_replica 152 = .ok (.aload_n 0, 1) := by decide +kernel
theorem d_T_replica_153 : decode b_T_replica 153 = .ok (.getfield 23, 3) := by decide +kernel
theorem d_T_replica_156 : decode b_T_replica 156 = .ok (.iload_n 1, 1) := by decide +kernel
theorem d_T_replica_157 : decode b_T_replica 157 = .ok (.iaload, 1) := by decide +kernel
theorem d_T_replica_158 : decode b_T_replica 158 = .ok (.ireturn, 1) := by decide +kernel
theorem d_T_replica_159 : decode b_T_replica 159 = .ok (.aload_n 0, 1) := by decide +kernel
theorem d_T_replica_160 : decode b_T_replica 160 = .ok (.getfield 29, 3) := by decide +kernel
theorem d_T_replica_163 : decode b_T_replica 163 = .ok (.iload_n 1, 1) := by decide +kernel
theorem d_T_replica_164 : decode b_T_replica 164 = .ok (.iaload, 1) := by decide +kernel
theorem d_T_replica_165 : decode b_T_replica 165 = .ok (.ifCond .le 12, 3) := by decide +kernel
theorem d_T_replica_168 : decode b_T_replica 168 = .ok (.aload_n 0, 1) := by decide +kernel
theorem d_T_replica_169 : decode b_T_replica 169 = .ok (.getfield 26, 3) := by decide +kernel
theorem d_T_replica_172 : decode b_T_replica 172 = .ok (.iload_n 1, 1) := by decide +kernel
theorem d_T_replica_173 : decode b_T_replica 173 = .ok (.iaload, 1) := by decide +kernel
theorem d_T_replica_174 : decode b_T_replica 174 = .ok (.goto 4, 3) := by decide +kernel
theorem d_T_replica_177 : decode b_T_replica 177 = .ok (.iconst (-1), 1) := by decide +kernel
theorem d_T_replica_178 : decode b_T_replica 178 = .ok (.ireturn, 1) := by decide +kernel
theorem d_T_replica_179 : decode b_T_replica 179 = .ok (.aload_n 0, 1) := by decide +kernel
theorem d_T_replica_180 : decode b_T_replica 180 = .ok (.getfield 29, 3) := by decide +kernel
theorem d_T_replica_183 : decode b_T_replica 183 = .ok (.iload_n 1, 1) := by decide +kernel
theorem d_T_replica_184 : decode b_T_replica 184 = .ok (.iaload, 1) := by decide +kernel
theorem d_T_replica_185 : decode b_T_replica 185 = .ok (.ireturn, 1) := by decide +kernel
theorem d_T_replica_186 : decode b_T_replica 186 = .ok (.aload_n 0, 1) := by decide +kernel
theorem d_T_replica_187 : decode b_T_replica 187 = .ok (.getfield 35, 3) := by decide +kernel
theorem d_T_replica_190 : decode b_T_replica 190 = .ok (.iload_n 1, 1) := by decide +kernel
theorem d_T_replica_191 : decode b_T_replica 191 = .ok (.iaload, 1) := by decide +kernel
theorem d_T_replica_192 : decode b_T_replica 192 = .ok (.ireturn, 1) := by decide +kernel
theorem d_T_replica_193 : decode b_T_replica 193 = .ok (.aload_n 0, 1) := by decide +kernel
theorem d_T_replica_194 : decode b_T_replica 194 = .ok (.getfield 38, 3) := by decide +kernel
theorem d_T_replica_197 : decode b_T_replica 197 = .ok (.iload_n 1, 1) := by decide +kernel
theorem d_T_replica_198 : decode b_T_replica 198 = .ok (.iaload, 1) := by decide +kernel
theorem d_T_replica_199 : decode b_T_replica 199 = .ok (.ireturn, 1) := by decide +kernel
theorem d_T_replica_200 : decode b_T_replica 200 = .ok (.aload_n 0, 1) := by decide +kernel
theorem d_T_replica_201 : decode b_T_replica 201 = .ok (.getfield 35, 3) := by decide +kernel
theorem d_T_replica_204 : decode b_T_replica 204 = .ok (.iload_n 1, 1) := by decide +kernel
theorem d_T_replica_205 : decode b_T_replica 205 = .ok (.iaload, 1) := by decide +kernel
theorem d_T_replica_206 : decode b_T_replica 206 = .ok (.iconst 2, 1) := by decide +kernel
theorem d_T_replica_207 : decode b_T_replica 207 = .ok (.if_icmp .ne 16, 3) := by decide +kernel
theorem d_T_replica_210 : decode b_T_replica 210 = .ok (.aload_n 0, 1) := by decide +kernel
theorem d_T_replica_211 : decode b_T_replica 211 = .ok (.getfield 44, 3) := by decide +kernel
theorem d_T_replica_214 : decode b_T_replica 214 = .ok (.iload_n 1, 1) := by decide +kernel
theorem d_T_replica_215 : decode b_T_replica 215 = .ok (.iaload, 1) := by decide +kernel
theorem d_T_replica_216 : decode b_T_replica 216 = .ok (.ifCond .ne 7, 3) := by decide +kernel
theorem d_T_replica_219 : decode b_T_replica 219 = .ok (.iconst 0, 1) := by decide +kernel
theorem d_T_replica_220 : decode b_T_replica 220 = .ok (.goto 9, 3) := by decide +kernel
theorem d_T_replica_223 : decode b_T_replica 223 = .ok (.aload_n 0, 1) := by decide +kernel
theorem d_T_replica_224 : decode b_T_replica 224 = .ok (.getfield 41, 3) := by decide +kernel
theorem d_T_replica_227 : decode b_T_replica 227 = .ok (.iload_n 1, 1) := by decide +kernel
theorem d_T_replica_228 : decode b_T_replica 228 = .ok (.iaload, 1) := by decide +kernel
theorem d_T_replica_229 : decode b_T_replica 229 = .ok (.ireturn, 1) := by decide +kernel
theorem d_T_replica_230 : decode b_T_replica 230 = .ok (.aload_n 0, 1) := by decide +kernel
theorem d_T_replica_231 : decode b_T_replica 231 = .ok (.getfield 53, 3) := by decide +kernel
theorem d_T_replica_234 : decode b_T_replica 234 = .ok (.iload_n 1, 1) := by decide +kernel
theorem d_T_replica_235 : decode b_T_replica 235 = .ok (.iaload, 1) := by decide +kernel
theorem d_T_replica_236 : decode b_T_replica 236 = .ok (.ireturn, 1) := by decide +kernel
theorem d_T_replica_237 : decode b_T_replica 237 = .ok (.aload_n 0, 1) := by decide +kernel
theorem d_T_replica_238 : decode b_T_replica 238 = .ok (.getfield 59, 3) := by decide +kernel
theorem d_T_replica_241 : decode b_T_replica 241 = .ok (.iload_n 1, 1) := by decide +kernel
theorem d_T_replica_242 : decode b_T_replica 242 = .ok (.iaload, 1) := by decide +kernel
theorem d_T_replica_243 : decode b_T_replica 243 = .ok (.ireturn, 1) := by decide +kernel
theorem d_T_replica_244 : decode b_T_replica 244 = .ok (.aload_n 0, 1) := by decide +kernel
theorem d_T_replica_245 : decode b_T_replica 245 = .ok (.getfield 44, 3) := by decide +kernel
theorem d_T_replica_248 : decode b_T_replica 248 = .ok (.iload_n 1, 1) := by decide +kernel
theorem d_T_replica_249 : decode b_T_replica 249 = .ok (.iaload, 1) := by decide +kernel
theorem d_T_replica_250 : decode b_T_replica 250 = .ok (.ireturn, 1) := by decide +kernel
theorem d_T_slot_0 : decode b_T_slot 0 = .ok (.aload_n 0, 1) := by decide +kernel
theorem d_T_slot_1 : decode b_T_slot 1 = .ok (.iconst 0, 1) := by decide +kernel
theorem d_T_slot_2 : decode b_T_slot 2 = .ok (.putfield 72, 3) := by decide +kernel
theorem d_T_slot_5 : decode b_T_slot 5 = .ok (.aload_n 0, 1) := by decide +kernel
theorem d_T_slot_6 : decode b_T_slot 6 = .ok (.iload_n 1, 1) := by decide +kernel
theorem d_T_slot_7 : decode b_T_slot 7 = .ok (.invokevirtual 75, 3) := by decide +kernel
theorem d_T_slot_10 : decode b_T_slot 10 = .ok (.ifCond .eq 51, 3) := by decide +kernel
theorem d_T_slot_13 : decode b_T_slot 13 = .ok (.iload_n 2, 1) := by decide +kernel
theorem d_T_slot_14 : decode b_T_slot 14 = .ok (.aload_n 0, 1) := by decide +kernel
theorem d_T_slot_15 : decode b_T_slot 15 = .ok (.getfield 20, 3) := by decide +kernel
theorem d_T_slot_18 : decode b_T_slot 18 = .ok (.aload_n 0, 1) := by decide +kernel
theorem d_T_slot_19 : decode b_T_slot 19 = .ok (.iload_n 1, 1) := by decide +kernel
theorem d_T_slot_20 : decode b_T_slot 20 = .ok (.invokevirtual 75, 3) := by decide +kernel
theorem d_T_slot_23 : decode b_T_slot 23 = .ok (.ifCond .eq 7, 3) := by decide +kernel
theorem d_T_slot_26 : decode b_T_slot 26 = .ok (.iload_n 1, 1) := by decide +kernel
theorem d_T_slot_27 : decode b_T_slot 27 = .ok (.goto 4, 3) := by decide +kernel
theorem d_T_slot_30 : decode b_T_slot 30 = .ok (.iconst 0, 1) := by decide +kernel
theorem d_T_slot_31 : decode b_T_slot 31 = .ok (.iaload, 1) := by decide +kernel
theorem d_T_slot_32 : decode b_T_slot 32 = .ok (.if_icmp .le 29, 3) := by decide +kernel
theorem d_T_slot_35 : decode b_T_slot 35 = .ok (.iload_n 2, 1) := by decide +kernel
theorem d_T_slot_36 : decode b_T_slot 36 = .ok (.aload_n 0, 1) := by decide +kernel
theorem d_T_slot_37 : decode b_T_slot 37 = .ok (.getfield 13, 3) := by decide +kernel
theorem d_T_slot_40 : decode b_T_slot 40 = .ok (.aload_n 0, 1) := by decide +kernel
theorem d_T_slot_41 : decode b_T_slot 41 = .ok (.iload_n 1, 1) := by decide +kernel
theorem d_T_slot_42 : decode b_T_slot 42 = .ok (.invokevirtual 75, 3) := by decide +kernel
theorem d_T_slot_45 : decode b_T_slot 45 = .ok (.ifCond .eq 7, 3) := by decide +kernel
theorem d_T_slot_48 : decode b_T_slot 48 = .ok (.iload_n 1, 1) := by decide +kernel
theorem d_T_slot_49 : decode b_T_slot 49 = .ok (.goto 4, 3) := by decide +kernel
theorem d_T_slot_52 : decode b_T_slot 52 = .ok (.iconst 0, 1) := by decide +kernel
theorem d_T_slot_53 : decode b_T_slot 53 = .ok (.iaload, 1) := by decide +kernel
theorem d_T_slot_54 : decode b_T_slot 54 = .ok (.if_icmp .gt 7, 3) := by decide +kernel
theorem d_T_slot_57 : decode b_T_slot 57 = .ok (.iconst 1, 1) := by decide +kernel
theorem d_T_slot_58 : decode b_T_slot 58 = .ok (.goto 4, 3) := by decide +kernel
theorem d_T_slot_61 : decode b_T_slot 61 = .ok (.iconst 0, 1) := by decide +kernel
theorem d_T_slot_62 : decode b_T_slot 62 = .ok (.istore_n 3, 1) := by decide +kernel
theorem d_T_slot_63 : decode b_T_slot 63 = .ok (.iload_n 3, 1) := by decide +kernel
theorem d_T_slot_64 : decode b_T_slot 64 = .ok (.ifCond .eq 20, 3) := by decide +kernel
theorem d_T_slot_67 : decode b_T_slot 67 = .ok (.aload_n 0, 1) := by decide +kernel
theorem d_T_slot_68 : decode b_T_slot 68 = .ok (.getfield 32, 3) := by decide +kernel
theorem d_T_slot_71 : decode b_T_slot 71 = .ok (.bipush 40, 2) := by decide +kernel
theorem d_T_slot_73 : decode b_T_slot 73 = .ok (.iload_n 1, 1) := by decide +kernel
theorem d_T_slot_74 : decode b_T_slot 74 = .ok (.imul, 1) := by decide +kernel
theorem d_T_slot_75 : decode b_T_slot 75 = .ok (.iload_n 2, 1) := by decide +kernel
theorem d_T_slot_76 : decode b_T_slot 76 = .ok (.bipush 40, 2) := by decide +kernel
theorem d_T_slot_78 : decode b_T_slot 78 = .ok (.irem, 1) := by decide +kernel
theorem d_T_slot_79 : decode b_T_slot 79 = .ok (.iadd, 1) := by decide +kernel
theorem d_T_slot_80 : decode b_T_slot 80 = .ok (.iaload, 1) := by decide +kernel
theorem d_T_slot_81 : decode b_T_slot 81 = .ok (.goto 4, 3) := by decide +kernel
theorem d_T_slot_84 : decode b_T_slot 84 = .ok (.iconst 0, 1) := by decide +kernel
theorem d_T_slot_85 : decode b_T_slot 85 = .ok (.ireturn, 1) := by decide +kernel
theorem d_T_waiting_0 : decode b_T_waiting 0 = .ok (.aload_n 0, 1) := by decide +kernel
theorem d_T_waiting_1 : decode b_T_waiting 1 = .ok (.iconst 0, 1) := by decide +kernel
theorem d_T_waiting_2 : decode b_T_waiting 2 = .ok (.putfield 72, 3) := by decide +kernel
theorem d_T_waiting_5 : decode b_T_waiting 5 = .ok (.aload_n 0, 1) := by decide +kernel
theorem d_T_waiting_6 : decode b_T_waiting 6 = .ok (.iload_n 1, 1) := by decide +kernel
theorem d_T_waiting_7 : decode b_T_waiting 7 = .ok (.invokevirtual 135, 3) := by decide +kernel
theorem d_T_waiting_10 : decode b_T_waiting 10 = .ok (.ifCond .eq 43, 3) := by decide +kernel
theorem d_T_waiting_13 : decode b_T_waiting 13 = .ok (.iload_n 2, 1) := by decide +kernel
theorem d_T_waiting_14 : decode b_T_waiting 14 = .ok (.ifCond .lt 39, 3) := by decide +kernel
theorem d_T_waiting_17 : decode b_T_waiting 17 = .ok (.iload_n 2, 1) := by decide +kernel
theorem d_T_waiting_18 : decode b_T_waiting 18 = .ok (.aload_n 0, 1) := by decide +kernel
theorem d_T_waiting_19 : decode b_T_waiting 19 = .ok (.getfield 59, 3) := by decide +kernel
theorem d_T_waiting_22 : decode b_T_waiting 22 = .ok (.aload_n 0, 1) := by decide +kernel
theorem d_T_waiting_23 : decode b_T_waiting 23 = .ok (.iload_n 1, 1) := by decide +kernel
theorem d_T_waiting_24 : decode b_T_waiting 24 = .ok (.invokevirtual 135, 3) := by decide +kernel
theorem d_T_waiting_27 : decode b_T_waiting 27 = .ok (.ifCond .eq 7, 3) := by decide +kernel
theorem d_T_waiting_30 : decode b_T_waiting 30 = .ok (.iload_n 1, 1) := by decide +kernel
theorem d_T_waiting_31 : decode b_T_waiting 31 = .ok (.goto 4, 3) := by decide +kernel
theorem d_T_waiting_34 : decode b_T_waiting 34 = .ok (.iconst 0, 1) := by decide +kernel
theorem d_T_waiting_35 : decode b_T_waiting 35 = .ok (.iaload, 1) := by decide +kernel
theorem d_T_waiting_36 : decode b_T_waiting 36 = .ok (.if_icmp .ge 17, 3) := by decide +kernel
theorem d_T_waiting_39 : decode b_T_waiting 39 = .ok (.aload_n 0, 1) := by decide +kernel
theorem d_T_waiting_40 : decode b_T_waiting 40 = .ok (.getfield 56, 3) := by decide +kernel
theorem d_T_waiting_43 : decode b_T_waiting 43 = .ok (.bipush 8, 2) := by decide +kernel
theorem d_T_waiting_45 : decode b_T_waiting 45 = .ok (.iload_n 1, 1) := by decide +kernel
theorem d_T_waiting_46 : decode b_T_waiting 46 = .ok (.imul, 1) := by decide +kernel
theorem d_T_waiting_47 : decode b_T_waiting 47 = .ok (.iload_n 2, 1) := by decide +kernel
theorem d_T_waiting_48 : decode b_T_waiting 48 = .ok (.iadd, 1) := by decide +kernel
theorem d_T_waiting_49 : decode b_T_waiting 49 = .ok (.iaload, 1) := by decide +kernel
theorem d_T_waiting_50 : decode b_T_waiting 50 = .ok (.goto 4, 3) := by decide +kernel
theorem d_T_waiting_53 : decode b_T_waiting 53 = .ok (.iconst 0, 1) := by decide +kernel
theorem d_T_waiting_54 : decode b_T_waiting 54 = .ok (.ireturn, 1) := by decide +kernel
theorem d_T_message_0 : decode b_T_message 0 = .ok (.aload_n 0, 1) := by decide +kernel
theorem d_T_message_1 : decode b_T_message 1 = .ok (.iconst 0, 1) := by decide +kernel
theorem d_T_message_2 : decode b_T_message 2 = .ok (.putfield 72, 3) := by decide +kernel
theorem d_T_message_5 : decode b_T_message 5 = .ok (.iload_n 1, 1) := by decide +kernel
theorem d_T_message_6 : decode b_T_message 6 = .ok (.ifCond .lt 21, 3) := by decide +kernel
theorem d_T_message_9 : decode b_T_message 9 = .ok (.iload_n 1, 1) := by decide +kernel
theorem d_T_message_10 : decode b_T_message 10 = .ok (.aload_n 0, 1) := by decide +kernel
theorem d_T_message_11 : decode b_T_message 11 = .ok (.getfield 82, 3) := by decide +kernel
theorem d_T_message_14 : decode b_T_message 14 = .ok (.if_icmp .ge 13, 3) := by decide +kernel
theorem d_T_message_17 : decode b_T_message 17 = .ok (.iload_n 2, 1) := by decide +kernel
theorem d_T_message_18 : decode b_T_message 18 = .ok (.ifCond .lt 9, 3) := by decide +kernel
theorem d_T_message_21 : decode b_T_message 21 = .ok (.iload_n 2, 1) := by decide +kernel
theorem d_T_message_22 : decode b_T_message 22 = .ok (.bipush 6, 2) := by decide +kernel
theorem d_T_message_24 : decode b_T_message 24 = .ok (.if_icmp .le 7, 3) := by decide +kernel
theorem d_T_message_27 : decode b_T_message 27 = .ok (.iconst (-1), 1) := by decide +kernel
theorem d_T_message_28 : decode b_T_message 28 = .ok (.goto 14, 3) := by decide +kernel
theorem d_T_message_31 : decode b_T_message 31 = .ok (.aload_n 0, 1) := by decide +kernel
theorem d_T_message_32 : decode b_T_message 32 = .ok (.getfield 62, 3) := by decide +kernel
theorem d_T_message_35 : decode b_T_message 35 = .ok (.bipush 7, 2) := by decide +kernel
theorem d_T_message_37 : decode b_T_message 37 = .ok (.iload_n 1, 1) := by decide +kernel
theorem d_T_message_38 : decode b_T_message 38 = .ok (.imul, 1) := by decide +kernel
theorem d_T_message_39 : decode b_T_message 39 = .ok (.iload_n 2, 1) := by decide +kernel
theorem d_T_message_40 : decode b_T_message 40 = .ok (.iadd, 1) := by decide +kernel
theorem d_T_message_41 : decode b_T_message 41 = .ok (.iaload, 1) := by decide +kernel
theorem d_T_message_42 : decode b_T_message 42 = .ok (.ireturn, 1) := by decide +kernel
theorem d_T_look_0 : decode b_T_look 0 = .ok (.aload_n 0, 1) := by decide +kernel
theorem d_T_look_1 : decode b_T_look 1 = .ok (.iconst 0, 1) := by decide +kernel
theorem d_T_look_2 : decode b_T_look 2 = .ok (.putfield 72, 3) := by decide +kernel
theorem d_T_look_5 : decode b_T_look 5 = .ok (.iconst 0, 1) := by decide +kernel
theorem d_T_look_6 : decode b_T_look 6 = .ok (.istore_n 2, 1) := by decide +kernel
theorem d_T_look_7 : decode b_T_look 7 = .ok (.iconst 0, 1) := by decide +kernel
theorem d_T_look_8 : decode b_T_look 8 = .ok (.istore_n 3, 1) := by decide +kernel
theorem d_T_look_9 : decode b_T_look 9 = .ok (.iload_n 3, 1) := by decide +kernel
theorem d_T_look_10 : decode b_T_look 10 = .ok (.aload_n 0, 1) := by decide +kernel
theorem d_T_look_11 : decode b_T_look 11 = .ok (.getfield 65, 3) := by decide +kernel
theorem d_T_look_14 : decode b_T_look 14 = .ok (.if_icmp .ge 30, 3) := by decide +kernel
theorem d_T_look_17 : decode b_T_look 17 = .ok (.aload_n 0, 1) := by decide +kernel
theorem d_T_look_18 : decode b_T_look 18 = .ok (.getfield 13, 3) := by decide +kernel
theorem d_T_look_21 : decode b_T_look 21 = .ok (.iload_n 3, 1) := by decide +kernel
theorem d_T_look_22 : decode b_T_look 22 = .ok (.iaload, 1) := by decide +kernel
theorem d_T_look_23 : decode b_T_look 23 = .ok (.iload_n 2, 1) := by decide +kernel
theorem d_T_look_24 : decode b_T_look 24 = .ok (.if_icmp .le 12, 3) := by decide +kernel
theorem d_T_look_27 : decode b_T_look 27 = .ok (.aload_n 0, 1) := by decide +kernel
theorem d_T_look_28 : decode b_T_look 28 = .ok (.getfield 13, 3) := by decide +kernel
theorem d_T_look_31 : decode b_T_look 31 = .ok (.iload_n 3, 1) := by decide +kernel
theorem d_T_look_32 : decode b_T_look 32 = .ok (.iaload, 1) := by decide +kernel
theorem d_T_look_33 : decode b_T_look 33 = .ok (.goto 4, 3) := by decide +kernel
theorem d_T_look_36 : decode b_T_look 36 = .ok (.iload_n 2, 1) := by decide +kernel
theorem d_T_look_37 : decode b_T_look 37 = .ok (.istore_n 2, 1) := by decide +kernel
theorem d_T_look_38 : decode b_T_look 38 = .ok (.iinc 3 1, 3) := by decide +kernel
theorem d_T_look_41 : decode b_T_look 41 = .ok (.goto (-32), 3) := by decide +kernel
theorem d_T_look_44 : decode b_T_look 44 = .ok (.iload_n 1, 1) := by decide +kernel
theorem d_T_look_45 : decode b_T_look 45 = .ok (.tableswitch 66 0 5 #[39, 44, 49, 54, 59, 64], 39) := by decide +kernel
theorem d_T_look_84 : decode b_T_look 84 = .ok (.aload_n 0, 1) := by decide +kernel
theorem d_T_look_85 : decode b_T_look 85 = .ok (.getfield 65, 3) := by decide +kernel
theorem d_T_look_88 : decode b_T_look 88 = .ok (.ireturn, 1) := by decide +kernel
theorem d_T_look_89 : decode b_T_look 89 = .ok (.aload_n 0, 1) := by decide +kernel
theorem d_T_look_90 : decode b_T_look 90 = .ok (.getfield 69, 3) := by decide +kernel
theorem d_T_look_93 : decode b_T_look 93 = .ok (.ireturn, 1) := by decide +kernel
theorem d_T_look_94 : decode b_T_look 94 = .ok (.aload_n 0, 1) := by decide +kernel
theorem d_T_look_95 : decode b_T_look 95 = .ok (.getfield 82, 3) := by decide +kernel
theorem d_T_look_98 : decode b_T_look 98 = .ok (.ireturn, 1) := by decide +kernel
theorem d_T_look_99 : decode b_T_look 99 = .ok (.aload_n 0, 1) := by decide +kernel
theorem d_T_look_100 : decode b_T_look 100 = .ok (.getfield 79, 3) := by decide +kernel
theorem d_T_look_103 : decode b_T_look 103 = .ok (.ireturn, 1) := by decide +kernel
theorem d_T_look_104 : decode b_T_look 104 = .ok (.aload_n 0, 1) := by decide +kernel
theorem d_T_look_105 : decode b_T_look 105 = .ok (.getfield 85, 3) := by decide +kernel
theorem d_T_look_108 : decode b_T_look 108 = .ok (.ireturn, 1) := by decide +kernel
theorem d_T_look_109 : decode b_T_look 109 = .ok (.iload_n 2, 1) := by decide +kernel
theorem d_T_look_110 : decode b_T_look 110 = .ok (.ireturn, 1) := by decide +kernel
theorem d_T_look_111 : decode b_T_look 111 = .ok (.iconst (-1), 1) := by decide +kernel
theorem d_T_look_112 : decode b_T_look 112 = .ok (.ireturn, 1) := by decide +kernel
