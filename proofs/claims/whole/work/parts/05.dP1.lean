theorem d_P_arrive_96 : decode b_P_arrive 96 = .ok (.aload_n 0, 1) := by decide +kernel
theorem d_P_arrive_97 : decode b_P_arrive 97 = .ok (.aload_n 1, 1) := by decide +kernel
theorem d_P_arrive_98 : decode b_P_arrive 98 = .ok (.aload_n 2, 1) := by decide +kernel
theorem d_P_arrive_99 : decode b_P_arrive 99 = .ok (.invokevirtual 213, 3) := by decide +kernel
theorem d_P_arrive_102 : decode b_P_arrive 102 = .ok (.goto 27, 3) := by decide +kernel
theorem d_P_arrive_105 : decode b_P_arrive 105 = .ok (.aload_n 0, 1) := by decide +kernel
theorem d_P_arrive_106 : decode b_P_arrive 106 = .ok (.aload_n 1, 1) := by decide +kernel
theorem d_P_arrive_107 : decode b_P_arrive 107 = .ok (.aload_n 2, 1) := by decide +kernel
theorem d_P_arrive_108 : decode b_P_arrive 108 = .ok (.invokevirtual 216, 3) := by decide +kernel
theorem d_P_arrive_111 : decode b_P_arrive 111 = .ok (.goto 18, 3) := by decide +kernel
theorem d_P_arrive_114 : decode b_P_arrive 114 = .ok (.aload_n 0, 1) := by decide +kernel
theorem d_P_arrive_115 : decode b_P_arrive 115 = .ok (.aload_n 1, 1) := by decide +kernel
theorem d_P_arrive_116 : decode b_P_arrive 116 = .ok (.aload_n 2, 1) := by decide +kernel
theorem d_P_arrive_117 : decode b_P_arrive 117 = .ok (.invokevirtual 219, 3) := by decide +kernel
theorem d_P_arrive_120 : decode b_P_arrive 120 = .ok (.goto 9, 3) := by decide +kernel
theorem d_P_arrive_123 : decode b_P_arrive 123 = .ok (.aload_n 0, 1) := by decide +kernel
theorem d_P_arrive_124 : decode b_P_arrive 124 = .ok (.aload_n 1, 1) := by decide +kernel
theorem d_P_arrive_125 : decode b_P_arrive 125 = .ok (.aload_n 2, 1) := by decide +kernel
theorem d_P_arrive_126 : decode b_P_arrive 126 = .ok (.invokevirtual 222, 3) := by decide +kernel
theorem d_P_arrive_129 : decode b_P_arrive 129 = .ok (.return_, 1) := by decide +kernel
theorem d_P_onPrepare_0 : decode b_P_onPrepare 0 = .ok (.aload_n 2, 1) := by decide +kernel
theorem d_P_onPrepare_1 : decode b_P_onPrepare 1 = .ok (.getfield 225, 3) := by decide +kernel
theorem d_P_onPrepare_4 : decode b_P_onPrepare 4 = .ok (.aload_n 1, 1) := by decide +kernel
theorem d_P_onPrepare_5 : decode b_P_onPrepare 5 = .ok (.getfield 117, 3) := by decide +kernel
theorem d_P_onPrepare_8 : decode b_P_onPrepare 8 = .ok (.getfield 121, 3) := by decide +kernel
theorem d_P_onPrepare_11 : decode b_P_onPrepare 11 = .ok (.if_icmp .gt 19, 3) := by decide +kernel
theorem d_P_onPrepare_14 : decode b_P_onPrepare 14 = .ok (.aload_n 0, 1) := by decide +kernel
theorem d_P_onPrepare_15 : decode b_P_onPrepare 15 = .ok (.aload_n 1, 1) := by decide +kernel
theorem d_P_onPrepare_16 : decode b_P_onPrepare 16 = .ok (.aload_n 2, 1) := by decide +kernel
theorem d_P_onPrepare_17 : decode b_P_onPrepare 17 = .ok (.getfield 228, 3) := by decide +kernel
theorem d_P_onPrepare_20 : decode b_P_onPrepare 20 = .ok (.aload_n 2, 1) := by decide +kernel
theorem d_P_onPrepare_21 : decode b_P_onPrepare 21 = .ok (.getfield 225, 3) := by decide +kernel
theorem d_P_onPrepare_24 : decode b_P_onPrepare 24 = .ok (.invokevirtual 231, 3) := by decide +kernel
theorem d_P_onPrepare_27 : decode b_P_onPrepare 27 = .ok (.goto 44, 3) := by decide +kernel
theorem d_P_onPrepare_30 : decode b_P_onPrepare 30 = .ok (.aload_n 2, 1) := by decide +kernel
theorem d_P_onPrepare_31 : decode b_P_onPrepare 31 = .ok (.getfield 198, 3) := by decide +kernel
theorem d_P_onPrepare_34 : decode b_P_onPrepare 34 = .ok (.aload_n 1, 1) := by decide +kernel
theorem d_P_onPrepare_35 : decode b_P_onPrepare 35 = .ok (.getfield 133, 3) := by decide +kernel
theorem d_P_onPrepare_38 : decode b_P_onPrepare 38 = .ok (.if_icmp .lt 24, 3) := by decide +kernel
theorem d_P_onPrepare_41 : decode b_P_onPrepare 41 = .ok (.aload_n 1, 1) := by decide +kernel
theorem d_P_onPrepare_42 : decode b_P_onPrepare 42 = .ok (.aload_n 2, 1) := by decide +kernel
theorem d_P_onPrepare_43 : decode b_P_onPrepare 43 = .ok (.getfield 198, 3) := by decide +kernel
theorem d_P_onPrepare_46 : decode b_P_onPrepare 46 = .ok (.putfield 133, 3) := by decide +kernel
theorem d_P_onPrepare_49 : decode b_P_onPrepare 49 = .ok (.aload_n 1, 1) := by decide +kernel
theorem d_P_onPrepare_50 : decode b_P_onPrepare 50 = .ok (.invokevirtual 235, 3) := by decide +kernel
theorem d_P_onPrepare_53 : decode b_P_onPrepare 53 = .ok (.aload_n 0, 1) := by decide +kernel
theorem d_P_onPrepare_54 : decode b_P_onPrepare 54 = .ok (.aload_n 1, 1) := by decide +kernel
theorem d_P_onPrepare_55 : decode b_P_onPrepare 55 = .ok (.aload_n 2, 1) := by decide +kernel
theorem d_P_onPrepare_56 : decode b_P_onPrepare 56 = .ok (.invokevirtual 238, 3) := by decide +kernel
theorem d_P_onPrepare_59 : decode b_P_onPrepare 59 = .ok (.goto 12, 3) := by decide +kernel
theorem d_P_onPrepare_62 : decode b_P_onPrepare 62 = .ok (.aload_n 0, 1) := by decide +kernel
theorem d_P_onPrepare_63 : decode b_P_onPrepare 63 = .ok (.aload_n 1, 1) := by decide +kernel
theorem d_P_onPrepare_64 : decode b_P_onPrepare 64 = .ok (.aload_n 2, 1) := by decide +kernel
theorem d_P_onPrepare_65 : decode b_P_onPrepare 65 = .ok (.getfield 228, 3) := by decide +kernel
theorem d_P_onPrepare_68 : decode b_P_onPrepare 68 = .ok (.invokevirtual 241, 3) := by decide +kernel
theorem d_P_onPrepare_71 : decode b_P_onPrepare 71 = .ok (.return_, 1) := by decide +kernel
theorem d_P_onPromise_0 : decode b_P_onPromise 0 = .ok (.aload_n 1, 1) := by decide +kernel
theorem d_P_onPromise_1 : decode b_P_onPromise 1 = .ok (.getfield 66, 3) := by decide +kernel
theorem d_P_onPromise_4 : decode b_P_onPromise 4 = .ok (.iconst 1, 1) := by decide +kernel
theorem d_P_onPromise_5 : decode b_P_onPromise 5 = .ok (.if_icmp .ne 40, 3) := by decide +kernel
theorem d_P_onPromise_8 : decode b_P_onPromise 8 = .ok (.aload_n 1, 1) := by decide +kernel
theorem d_P_onPromise_9 : decode b_P_onPromise 9 = .ok (.getfield 244, 3) := by decide +kernel
theorem d_P_onPromise_12 : decode b_P_onPromise 12 = .ok (.aload_n 2, 1) := by decide +kernel
theorem d_P_onPromise_13 : decode b_P_onPromise 13 = .ok (.getfield 198, 3) := by decide +kernel
theorem d_P_onPromise_16 : decode b_P_onPromise 16 = .ok (.if_icmp .ne 29, 3) := by decide +kernel
theorem d_P_onPromise_19 : decode b_P_onPromise 19 = .ok (.aload_n 1, 1) := by decide +kernel
theorem d_P_onPromise_20 : decode b_P_onPromise 20 = .ok (.aload_n 2, 1) := by decide +kernel
theorem d_P_onPromise_21 : decode b_P_onPromise 21 = .ok (.getfield 225, 3) := by decide +kernel
theorem d_P_onPromise_24 : decode b_P_onPromise 24 = .ok (.invokevirtual 245, 3) := by decide +kernel
theorem d_P_onPromise_27 : decode b_P_onPromise 27 = .ok (.ifCond .eq 18, 3) := by decide +kernel
theorem d_P_onPromise_30 : decode b_P_onPromise 30 = .ok (.aload_n 1, 1) := by decide +kernel
theorem d_P_onPromise_31 : decode b_P_onPromise 31 = .ok (.aload_n 2, 1) := by decide +kernel
theorem d_P_onPromise_32 : decode b_P_onPromise 32 = .ok (.getfield 228, 3) := by decide +kernel
theorem d_P_onPromise_35 : decode b_P_onPromise 35 = .ok (.invokevirtual 248, 3) := by decide +kernel
theorem d_P_onPromise_38 : decode b_P_onPromise 38 = .ok (.ifCond .ne 7, 3) := by decide +kernel
theorem d_P_onPromise_41 : decode b_P_onPromise 41 = .ok (.iconst 1, 1) := by decide +kernel
theorem d_P_onPromise_42 : decode b_P_onPromise 42 = .ok (.goto 4, 3) := by decide +kernel
theorem d_P_onPromise_45 : decode b_P_onPromise 45 = .ok (.iconst 0, 1) := by decide +kernel
theorem d_P_onPromise_46 : decode b_P_onPromise 46 = .ok (.istore_n 3, 1) := by decide +kernel
theorem d_P_onPromise_47 : decode b_P_onPromise 47 = .ok (.iload_n 3, 1) := by decide +kernel
theorem d_P_onPromise_48 : decode b_P_onPromise 48 = .ok (.ifCond .ne 4, 3) := by decide +kernel
theorem d_P_onPromise_51 : decode b_P_onPromise 51 = .ok (.return_, 1) := by decide +kernel
theorem d_P_onPromise_52 : decode b_P_onPromise 52 = .ok (.aload_n 1, 1) := by decide +kernel
theorem d_P_onPromise_53 : decode b_P_onPromise 53 = .ok (.aload_n 2, 1) := by decide +kernel
theorem d_P_onPromise_54 : decode b_P_onPromise 54 = .ok (.getfield 228, 3) := by decide +kernel
theorem d_P_onPromise_57 : decode b_P_onPromise 57 = .ok (.invokevirtual 251, 3) := by decide +kernel
theorem d_P_onPromise_60 : decode b_P_onPromise 60 = .ok (.aload_n 1, 1) := by decide +kernel
theorem d_P_onPromise_61 : decode b_P_onPromise 61 = .ok (.aload_n 2, 1) := by decide +kernel
theorem d_P_onPromise_62 : decode b_P_onPromise 62 = .ok (.getfield 254, 3) := by decide +kernel
theorem d_P_onPromise_65 : decode b_P_onPromise 65 = .ok (.aload_n 2, 1) := by decide +kernel
theorem d_P_onPromise_66 : decode b_P_onPromise 66 = .ok (.getfield 257, 3) := by decide +kernel
theorem d_P_onPromise_69 : decode b_P_onPromise 69 = .ok (.invokevirtual 260, 3) := by decide +kernel
theorem d_P_onPromise_72 : decode b_P_onPromise 72 = .ok (.aload_n 0, 1) := by decide +kernel
theorem d_P_onPromise_73 : decode b_P_onPromise 73 = .ok (.aload_n 1, 1) := by decide +kernel
theorem d_P_onPromise_74 : decode b_P_onPromise 74 = .ok (.getfield 263, 3) := by decide +kernel
theorem d_P_onPromise_77 : decode b_P_onPromise 77 = .ok (.invokevirtual 266, 3) := by decide +kernel
theorem d_P_onPromise_80 : decode b_P_onPromise 80 = .ok (.ifCond .eq 31, 3) := by decide +kernel
theorem d_P_onPromise_83 : decode b_P_onPromise 83 = .ok (.aload_n 1, 1) := by decide +kernel
theorem d_P_onPromise_84 : decode b_P_onPromise 84 = .ok (.invokevirtual 269, 3) := by decide +kernel
theorem d_P_onPromise_87 : decode b_P_onPromise 87 = .ok (.aload_n 1, 1) := by decide +kernel
theorem d_P_onPromise_88 : decode b_P_onPromise 88 = .ok (.getfield 272, 3) := by decide +kernel
theorem d_P_onPromise_91 : decode b_P_onPromise 91 = .ok (.ifCond .eq 15, 3) := by decide +kernel
theorem d_P_onPromise_94 : decode b_P_onPromise 94 = .ok (.aload_n 0, 1) := by decide +kernel
theorem d_P_onPromise_95 : decode b_P_onPromise 95 = .ok (.aload_n 1, 1) := by decide +kernel
theorem d_P_onPromise_96 : decode b_P_onPromise 96 = .ok (.aload_n 1, 1) := by decide +kernel
theorem d_P_onPromise_97 : decode b_P_onPromise 97 = .ok (.getfield 275, 3) := by decide +kernel
theorem d_P_onPromise_100 : decode b_P_onPromise 100 = .ok (.invokevirtual 192, 3) := by decide +kernel
theorem d_P_onPromise_103 : decode b_P_onPromise 103 = .ok (.goto 8, 3) := by decide +kernel
theorem d_P_onPromise_106 : decode b_P_onPromise 106 = .ok (.aload_n 0, 1) := by decide +kernel
theorem d_P_onPromise_107 : decode b_P_onPromise 107 = .ok (.aload_n 1, 1) := by decide +kernel
theorem d_P_onPromise_108 : decode b_P_onPromise 108 = .ok (.invokevirtual 179, 3) := by decide +kernel
theorem d_P_onPromise_111 : decode b_P_onPromise 111 = .ok (.return_, 1) := by decide +kernel
theorem d_P_onAccept_0 : decode b_P_onAccept 0 = .ok (.aload_n 2, 1) := by decide +kernel
theorem d_P_onAccept_1 : decode b_P_onAccept 1 = .ok (.getfield 225, 3) := by decide +kernel
theorem d_P_onAccept_4 : decode b_P_onAccept 4 = .ok (.aload_n 1, 1) := by decide +kernel
theorem d_P_onAccept_5 : decode b_P_onAccept 5 = .ok (.getfield 117, 3) := by decide +kernel
theorem d_P_onAccept_8 : decode b_P_onAccept 8 = .ok (.getfield 121, 3) := by decide +kernel
theorem d_P_onAccept_11 : decode b_P_onAccept 11 = .ok (.if_icmp .gt 19, 3) := by decide +kernel
theorem d_P_onAccept_14 : decode b_P_onAccept 14 = .ok (.aload_n 0, 1) := by decide +kernel
theorem d_P_onAccept_15 : decode b_P_onAccept 15 = .ok (.aload_n 1, 1) := by decide +kernel
theorem d_P_onAccept_16 : decode b_P_onAccept 16 = .ok (.aload_n 2, 1) := by decide +kernel
theorem d_P_onAccept_17 : decode b_P_onAccept 17 = .ok (.getfield 228, 3) := by decide +kernel
theorem d_P_onAccept_20 : decode b_P_onAccept 20 = .ok (.aload_n 2, 1) := by decide +kernel
theorem d_P_onAccept_21 : decode b_P_onAccept 21 = .ok (.getfield 225, 3) := by decide +kernel
theorem d_P_onAccept_24 : decode b_P_onAccept 24 = .ok (.invokevirtual 231, 3) := by decide +kernel
theorem d_P_onAccept_27 : decode b_P_onAccept 27 = .ok (.goto 118, 3) := by decide +kernel
theorem d_P_onAccept_30 : decode b_P_onAccept 30 = .ok (.aload_n 1, 1) := by decide +kernel
theorem d_P_onAccept_31 : decode b_P_onAccept 31 = .ok (.aload_n 2, 1) := by decide +kernel
theorem d_P_onAccept_32 : decode b_P_onAccept 32 = .ok (.getfield 225, 3) := by decide +kernel
theorem d_P_onAccept_35 : decode b_P_onAccept 35 = .ok (.invokevirtual 245, 3) := by decide +kernel
theorem d_P_onAccept_38 : decode b_P_onAccept 38 = .ok (.ifCond .ne 15, 3) := by decide +kernel
theorem d_P_onAccept_41 : decode b_P_onAccept 41 = .ok (.aload_n 0, 1) := by decide +kernel
theorem d_P_onAccept_42 : decode b_P_onAccept 42 = .ok (.aload_n 1, 1) := by decide +kernel
theorem d_P_onAccept_43 : decode b_P_onAccept 43 = .ok (.aload_n 2, 1) := by decide +kernel
theorem d_P_onAccept_44 : decode b_P_onAccept 44 = .ok (.getfield 228, 3) := by decide +kernel
theorem d_P_onAccept_47 : decode b_P_onAccept 47 = .ok (.invokevirtual 85, 3) := by decide +kernel
theorem d_P_onAccept_50 : decode b_P_onAccept 50 = .ok (.goto 95, 3) := by decide +kernel
theorem d_P_onAccept_53 : decode b_P_onAccept 53 = .ok (.aload_n 2, 1) := by decide +kernel
theorem d_P_onAccept_54 : decode b_P_onAccept 54 = .ok (.getfield 198, 3) := by decide +kernel
theorem d_P_onAccept_57 : decode b_P_onAccept 57 = .ok (.aload_n 1, 1) := by decide +kernel
theorem d_P_onAccept_58 : decode b_P_onAccept 58 = .ok (.getfield 133, 3) := by decide +kernel
theorem d_P_onAccept_61 : decode b_P_onAccept 61 = .ok (.if_icmp .lt 75, 3) := by decide +kernel
theorem d_P_onAccept_64 : decode b_P_onAccept 64 = .ok (.aload_n 1, 1) := by decide +kernel
theorem d_P_onAccept_65 : decode b_P_onAccept 65 = .ok (.aload_n 2, 1) := by decide +kernel
theorem d_P_onAccept_66 : decode b_P_onAccept 66 = .ok (.getfield 198, 3) := by decide +kernel
theorem d_P_onAccept_69 : decode b_P_onAccept 69 = .ok (.putfield 133, 3) := by decide +kernel
theorem d_P_onAccept_72 : decode b_P_onAccept 72 = .ok (.aload_n 1, 1) := by decide +kernel
theorem d_P_onAccept_73 : decode b_P_onAccept 73 = .ok (.getfield 66, 3) := by decide +kernel
theorem d_P_onAccept_76 : decode b_P_onAccept 76 = .ok (.iconst 1, 1) := by decide +kernel
theorem d_P_onAccept_77 : decode b_P_onAccept 77 = .ok (.if_icmp .eq 14, 3) := by decide +kernel
theorem d_P_onAccept_80 : decode b_P_onAccept 80 = .ok (.aload_n 1, 1) := by decide +kernel
theorem d_P_onAccept_81 : decode b_P_onAccept 81 = .ok (.getfield 244, 3) := by decide +kernel
theorem d_P_onAccept_84 : decode b_P_onAccept 84 = .ok (.aload_n 2, 1) := by decide +kernel
theorem d_P_onAccept_85 : decode b_P_onAccept 85 = .ok (.getfield 198, 3) := by decide +kernel
theorem d_P_onAccept_88 : decode b_P_onAccept 88 = .ok (.if_icmp .eq 7, 3) := by decide +kernel
theorem d_P_onAccept_91 : decode b_P_onAccept 91 = .ok (.aload_n 1, 1) := by decide +kernel
theorem d_P_onAccept_92 : decode b_P_onAccept 92 = .ok (.invokevirtual 235, 3) := by decide +kernel
theorem d_P_onAccept_95 : decode b_P_onAccept 95 = .ok (.aload_n 1, 1) := by decide +kernel
theorem d_P_onAccept_96 : decode b_P_onAccept 96 = .ok (.aload_n 2, 1) := by decide +kernel
theorem d_P_onAccept_97 : decode b_P_onAccept 97 = .ok (.getfield 198, 3) := by decide +kernel
theorem d_P_onAccept_100 : decode b_P_onAccept 100 = .ok (.aload_n 2, 1) := by decide +kernel
theorem d_P_onAccept_101 : decode b_P_onAccept 101 = .ok (.getfield 257, 3) := by decide +kernel
theorem d_P_onAccept_104 : decode b_P_onAccept 104 = .ok (.invokevirtual 278, 3) := by decide +kernel
theorem d_P_onAccept_107 : decode b_P_onAccept 107 = .ok (.aload_n 0, 1) := by decide +kernel
theorem d_P_onAccept_108 : decode b_P_onAccept 108 = .ok (.getfield 37, 3) := by decide +kernel
theorem d_P_onAccept_111 : decode b_P_onAccept 111 = .ok (.iconst 4, 1) := by decide +kernel
theorem d_P_onAccept_112 : decode b_P_onAccept 112 = .ok (.aload_n 1, 1) := by decide +kernel
theorem d_P_onAccept_113 : decode b_P_onAccept 113 = .ok (.getfield 82, 3) := by decide +kernel
theorem d_P_onAccept_116 : decode b_P_onAccept 116 = .ok (.aload_n 2, 1) := by decide +kernel
theorem d_P_onAccept_117 : decode b_P_onAccept 117 = .ok (.getfield 228, 3) := by decide +kernel
theorem d_P_onAccept_120 : decode b_P_onAccept 120 = .ok (.aload_n 2, 1) := by decide +kernel
theorem d_P_onAccept_121 : decode b_P_onAccept 121 = .ok (.getfield 198, 3) := by decide +kernel
theorem d_P_onAccept_124 : decode b_P_onAccept 124 = .ok (.aload_n 2, 1) := by decide +kernel
theorem d_P_onAccept_125 : decode b_P_onAccept 125 = .ok (.getfield 225, 3) := by decide +kernel
theorem d_P_onAccept_128 : decode b_P_onAccept 128 = .ok (.iconst 0, 1) := by decide +kernel
theorem d_P_onAccept_129 : decode b_P_onAccept 129 = .ok (.iconst 0, 1) := by decide +kernel
theorem d_P_onAccept_130 : decode b_P_onAccept 130 = .ok (.invokevirtual 281, 3) := by decide +kernel
theorem d_P_onAccept_133 : decode b_P_onAccept 133 = .ok (.goto 12, 3) := by decide +kernel
theorem d_P_onAccept_136 : decode b_P_onAccept 136 = .ok (.aload_n 0, 1) := by decide +kernel
theorem d_P_onAccept_137 : decode b_P_onAccept 137 = .ok (.aload_n 1, 1) := by decide +kernel
theorem d_P_onAccept_138 : decode b_P_onAccept 138 = .ok (.aload_n 2, 1) := by decide +kernel
theorem d_P_onAccept_139 : decode b_P_onAccept 139 = .ok (.getfield 228, 3) := by decide +kernel
theorem d_P_onAccept_142 : decode b_P_onAccept 142 = .ok (.invokevirtual 241, 3) := by decide +kernel
theorem d_P_onAccept_145 : decode b_P_onAccept 145 = .ok (.return_, 1) := by decide +kernel
theorem d_P_onAccepted_0 : decode b_P_onAccepted 0 = .ok (.aload_n 1, 1) := by decide +kernel
theorem d_P_onAccepted_1 : decode b_P_onAccepted 1 = .ok (.getfield 66, 3) := by decide +kernel
theorem d_P_onAccepted_4 : decode b_P_onAccepted 4 = .ok (.iconst 2, 1) := by decide +kernel
theorem d_P_onAccepted_5 : decode b_P_onAccepted 5 = .ok (.if_icmp .ne 47, 3) := by decide +kernel
theorem d_P_onAccepted_8 : decode b_P_onAccepted 8 = .ok (.aload_n 1, 1) := by decide +kernel
theorem d_P_onAccepted_9 : decode b_P_onAccepted 9 = .ok (.getfield 244, 3) := by decide +kernel
theorem d_P_onAccepted_12 : decode b_P_onAccepted 12 = .ok (.aload_n 2, 1) := by decide +kernel
theorem d_P_onAccepted_13 : decode b_P_onAccepted 13 = .ok (.getfield 198, 3) := by decide +kernel
theorem d_P_onAccepted_16 : decode b_P_onAccepted 16 = .ok (.if_icmp .ne 36, 3) := by decide +kernel
theorem d_P_onAccepted_19 : decode b_P_onAccepted 19 = .ok (.aload_n 1, 1) := by decide +kernel
theorem d_P_onAccepted_20 : decode b_P_onAccepted 20 = .ok (.getfield 173, 3) := by decide +kernel
theorem d_P_onAccepted_23 : decode b_P_onAccepted 23 = .ok (.ifCond .eq 29, 3) := by decide +kernel
theorem d_P_onAccepted_26 : decode b_P_onAccepted 26 = .ok (.aload_n 1, 1) := by decide +kernel
theorem d_P_onAccepted_27 : decode b_P_onAccepted 27 = .ok (.aload_n 2, 1) := by decide +kernel
theorem d_P_onAccepted_28 : decode b_P_onAccepted 28 = .ok (.getfield 225, 3) := by decide +kernel
theorem d_P_onAccepted_31 : decode b_P_onAccepted 31 = .ok (.invokevirtual 245, 3) := by decide +kernel
theorem d_P_onAccepted_34 : decode b_P_onAccepted 34 = .ok (.ifCond .eq 18, 3) := by decide +kernel
theorem d_P_onAccepted_37 : decode b_P_onAccepted 37 = .ok (.aload_n 1, 1) := by decide +kernel
theorem d_P_onAccepted_38 : decode b_P_onAccepted 38 = .ok (.aload_n 2, 1) := by decide +kernel
theorem d_P_onAccepted_39 : decode b_P_onAccepted 39 = .ok (.getfield 228, 3) := by decide +kernel
theorem d_P_onAccepted_42 : decode b_P_onAccepted 42 = .ok (.invokevirtual 248, 3) := by decide +kernel
theorem d_P_onAccepted_45 : decode b_P_onAccepted 45 = .ok (.ifCond .ne 7, 3) := by decide +kernel
theorem d_P_onAccepted_48 : decode b_P_onAccepted 48 = .ok (.iconst 1, 1) := by decide +kernel
theorem d_P_onAccepted_49 : decode b_P_onAccepted 49 = .ok (.goto 4, 3) := by decide +kernel
theorem d_P_onAccepted_52 : decode b_P_onAccepted 52 = .ok (.iconst 0, 1) := by decide +kernel
theorem d_P_onAccepted_53 : decode b_P_onAccepted 53 = .ok (.istore_n 3, 1) := by decide +kernel
theorem d_P_onAccepted_54 : decode b_P_onAccepted 54 = .ok (.iload_n 3, 1) := by decide +kernel
theorem d_P_onAccepted_55 : decode b_P_onAccepted 55 = .ok (.ifCond .ne 4, 3) := by decide +kernel
theorem d_P_onAccepted_58 : decode b_P_onAccepted 58 = .ok (.return_, 1) := by decide +kernel
theorem d_P_onAccepted_59 : decode b_P_onAccepted 59 = .ok (.aload_n 1, 1) := by decide +kernel
theorem d_P_onAccepted_60 : decode b_P_onAccepted 60 = .ok (.aload_n 2, 1) := by decide +kernel
theorem d_P_onAccepted_61 : decode b_P_onAccepted 61 = .ok (.getfield 228, 3) := by decide +kernel
theorem d_P_onAccepted_64 : decode b_P_onAccepted 64 = .ok (.invokevirtual 251, 3) := by decide +kernel
theorem d_P_onAccepted_67 : decode b_P_onAccepted 67 = .ok (.aload_n 0, 1) := by decide +kernel
theorem d_P_onAccepted_68 : decode b_P_onAccepted 68 = .ok (.aload_n 1, 1) := by decide +kernel
theorem d_P_onAccepted_69 : decode b_P_onAccepted 69 = .ok (.getfield 263, 3) := by decide +kernel
theorem d_P_onAccepted_72 : decode b_P_onAccepted 72 = .ok (.invokevirtual 266, 3) := by decide +kernel
theorem d_P_onAccepted_75 : decode b_P_onAccepted 75 = .ok (.ifCond .eq 36, 3) := by decide +kernel
theorem d_P_onAccepted_78 : decode b_P_onAccepted 78 = .ok (.aload_n 1, 1) := by decide +kernel
theorem d_P_onAccepted_79 : decode b_P_onAccepted 79 = .ok (.getfield 173, 3) := by decide +kernel
theorem d_P_onAccepted_82 : decode b_P_onAccepted 82 = .ok (.istore 4, 2) := by decide +kernel
theorem d_P_onAccepted_84 : decode b_P_onAccepted 84 = .ok (.aload_n 0, 1) := by decide +kernel
theorem d_P_onAccepted_85 : decode b_P_onAccepted 85 = .ok (.iconst 5, 1) := by decide +kernel
theorem d_P_onAccepted_86 : decode b_P_onAccepted 86 = .ok (.aload_n 1, 1) := by decide +kernel
theorem d_P_onAccepted_87 : decode b_P_onAccepted 87 = .ok (.getfield 82, 3) := by decide +kernel
theorem d_P_onAccepted_90 : decode b_P_onAccepted 90 = .ok (.iconst 0, 1) := by decide +kernel
theorem d_P_onAccepted_91 : decode b_P_onAccepted 91 = .ok (.aload_n 2, 1) := by decide +kernel
theorem d_P_onAccepted_92 : decode b_P_onAccepted 92 = .ok (.getfield 225, 3) := by decide +kernel
theorem d_P_onAccepted_95 : decode b_P_onAccepted 95 = .ok (.iload 4, 2) := by decide +kernel
theorem d_P_onAccepted_97 : decode b_P_onAccepted 97 = .ok (.invokevirtual 285, 3) := by decide +kernel
theorem d_P_onAccepted_100 : decode b_P_onAccepted 100 = .ok (.aload_n 1, 1) := by decide +kernel
theorem d_P_onAccepted_101 : decode b_P_onAccepted 101 = .ok (.iload 4, 2) := by decide +kernel
theorem d_P_onAccepted_103 : decode b_P_onAccepted 103 = .ok (.invokevirtual 289, 3) := by decide +kernel
theorem d_P_onAccepted_106 : decode b_P_onAccepted 106 = .ok (.aload_n 0, 1) := by decide +kernel
theorem d_P_onAccepted_107 : decode b_P_onAccepted 107 = .ok (.aload_n 1, 1) := by decide +kernel
theorem d_P_onAccepted_108 : decode b_P_onAccepted 108 = .ok (.invokevirtual 179, 3) := by decide +kernel
theorem d_P_onAccepted_111 : decode b_P_onAccepted 111 = .ok (.return_, 1) := by decide +kernel
theorem d_P_onChosen_0 : decode b_P_onChosen 0 = .ok (.aload_n 1, 1) := by decide +kernel
theorem d_P_onChosen_1 : decode b_P_onChosen 1 = .ok (.aload_n 2, 1) := by decide +kernel
theorem d_P_onChosen_2 : decode b_P_onChosen 2 = .ok (.getfield 225, 3) := by decide +kernel
theorem d_P_onChosen_5 : decode b_P_onChosen 5 = .ok (.invokevirtual 245, 3) := by decide +kernel
theorem d_P_onChosen_8 : decode b_P_onChosen 8 = .ok (.ifCond .eq 14, 3) := by decide +kernel
theorem d_P_onChosen_11 : decode b_P_onChosen 11 = .ok (.aload_n 1, 1) := by decide +kernel
theorem d_P_onChosen_12 : decode b_P_onChosen 12 = .ok (.aload_n 2, 1) := by decide +kernel
theorem d_P_onChosen_13 : decode b_P_onChosen 13 = .ok (.getfield 257, 3) := by decide +kernel
theorem d_P_onChosen_16 : decode b_P_onChosen 16 = .ok (.invokevirtual 289, 3) := by decide +kernel
theorem d_P_onChosen_19 : decode b_P_onChosen 19 = .ok (.goto 26, 3) := by decide +kernel
theorem d_P_onChosen_22 : decode b_P_onChosen 22 = .ok (.aload_n 2, 1) := by decide +kernel
theorem d_P_onChosen_23 : decode b_P_onChosen 23 = .ok (.getfield 225, 3) := by decide +kernel
theorem d_P_onChosen_26 : decode b_P_onChosen 26 = .ok (.aload_n 1, 1) := by decide +kernel
theorem d_P_onChosen_27 : decode b_P_onChosen 27 = .ok (.getfield 117, 3) := by decide +kernel
theorem d_P_onChosen_30 : decode b_P_onChosen 30 = .ok (.getfield 121, 3) := by decide +kernel
theorem d_P_onChosen_33 : decode b_P_onChosen 33 = .ok (.if_icmp .le 12, 3) := by decide +kernel
theorem d_P_onChosen_36 : decode b_P_onChosen 36 = .ok (.aload_n 0, 1) := by decide +kernel
theorem d_P_onChosen_37 : decode b_P_onChosen 37 = .ok (.aload_n 1, 1) := by decide +kernel
theorem d_P_onChosen_38 : decode b_P_onChosen 38 = .ok (.aload_n 2, 1) := by decide +kernel
theorem d_P_onChosen_39 : decode b_P_onChosen 39 = .ok (.getfield 228, 3) := by decide +kernel
theorem d_P_onChosen_42 : decode b_P_onChosen 42 = .ok (.invokevirtual 85, 3) := by decide +kernel
theorem d_P_onChosen_45 : decode b_P_onChosen 45 = .ok (.return_, 1) := by decide +kernel
theorem d_P_onAsk_0 : decode b_P_onAsk 0 = .ok (.aload_n 2, 1) := by decide +kernel
theorem d_P_onAsk_1 : decode b_P_onAsk 1 = .ok (.getfield 225, 3) := by decide +kernel
theorem d_P_onAsk_4 : decode b_P_onAsk 4 = .ok (.aload_n 1, 1) := by decide +kernel
theorem d_P_onAsk_5 : decode b_P_onAsk 5 = .ok (.getfield 117, 3) := by decide +kernel
theorem d_P_onAsk_8 : decode b_P_onAsk 8 = .ok (.getfield 121, 3) := by decide +kernel
theorem d_P_onAsk_11 : decode b_P_onAsk 11 = .ok (.if_icmp .gt 16, 3) := by decide +kernel
theorem d_P_onAsk_14 : decode b_P_onAsk 14 = .ok (.aload_n 0, 1) := by decide +kernel
theorem d_P_onAsk_15 : decode b_P_onAsk 15 = .ok (.aload_n 1, 1) := by decide +kernel
theorem d_P_onAsk_16 : decode b_P_onAsk 16 = .ok (.aload_n 2, 1) := by decide +kernel
theorem d_P_onAsk_17 : decode b_P_onAsk 17 = .ok (.getfield 228, 3) := by decide +kernel
theorem d_P_onAsk_20 : decode b_P_onAsk 20 = .ok (.aload_n 2, 1) := by decide +kernel
theorem d_P_onAsk_21 : decode b_P_onAsk 21 = .ok (.getfield 225, 3) := by decide +kernel
theorem d_P_onAsk_24 : decode b_P_onAsk 24 = .ok (.invokevirtual 231, 3) := by decide +kernel
theorem d_P_onAsk_27 : decode b_P_onAsk 27 = .ok (.return_, 1) := by decide +kernel
theorem d_P_onDeny_0 : decode b_P_onDeny 0 = .ok (.aload_n 1, 1) := by decide +kernel
theorem d_P_onDeny_1 : decode b_P_onDeny 1 = .ok (.getfield 66, 3) := by decide +kernel
theorem d_P_onDeny_4 : decode b_P_onDeny 4 = .ok (.ifCond .eq 18, 3) := by decide +kernel
theorem d_P_onDeny_7 : decode b_P_onDeny 7 = .ok (.aload_n 1, 1) := by decide +kernel
theorem d_P_onDeny_8 : decode b_P_onDeny 8 = .ok (.getfield 244, 3) := by decide +kernel
theorem d_P_onDeny_11 : decode b_P_onDeny 11 = .ok (.aload_n 2, 1) := by decide +kernel
theorem d_P_onDeny_12 : decode b_P_onDeny 12 = .ok (.getfield 198, 3) := by decide +kernel
theorem d_P_onDeny_15 : decode b_P_onDeny 15 = .ok (.if_icmp .ge 7, 3) := by decide +kernel
theorem d_P_onDeny_18 : decode b_P_onDeny 18 = .ok (.aload_n 1, 1) := by decide +kernel
theorem d_P_onDeny_19 : decode b_P_onDeny 19 = .ok (.invokevirtual 235, 3) := by decide +kernel
theorem d_P_onDeny_22 : decode b_P_onDeny 22 = .ok (.return_, 1) := by decide +kernel
theorem d_P_onState_0 : decode b_P_onState 0 = .ok (.aload_n 2, 1) := by decide +kernel
theorem d_P_onState_1 : decode b_P_onState 1 = .ok (.getfield 225, 3) := by decide +kernel
theorem d_P_onState_4 : decode b_P_onState 4 = .ok (.aload_n 1, 1) := by decide +kernel
theorem d_P_onState_5 : decode b_P_onState 5 = .ok (.getfield 117, 3) := by decide +kernel
theorem d_P_onState_8 : decode b_P_onState 8 = .ok (.getfield 121, 3) := by decide +kernel
theorem d_P_onState_11 : decode b_P_onState 11 = .ok (.if_icmp .le 26, 3) := by decide +kernel
theorem d_P_onState_14 : decode b_P_onState 14 = .ok (.aload_n 1, 1) := by decide +kernel
theorem d_P_onState_15 : decode b_P_onState 15 = .ok (.getfield 117, 3) := by decide +kernel
theorem d_P_onState_18 : decode b_P_onState 18 = .ok (.aload_n 2, 1) := by decide +kernel
theorem d_P_onState_19 : decode b_P_onState 19 = .ok (.getfield 225, 3) := by decide +kernel
theorem d_P_onState_22 : decode b_P_onState 22 = .ok (.aload_n 2, 1) := by decide +kernel
theorem d_P_onState_23 : decode b_P_onState 23 = .ok (.getfield 257, 3) := by decide +kernel
theorem d_P_onState_26 : decode b_P_onState 26 = .ok (.invokevirtual 292, 3) := by decide +kernel
theorem d_P_onState_29 : decode b_P_onState 29 = .ok (.aload_n 1, 1) := by decide +kernel
theorem d_P_onState_30 : decode b_P_onState 30 = .ok (.invokevirtual 295, 3) := by decide +kernel
theorem d_P_onState_33 : decode b_P_onState 33 = .ok (.aload_n 1, 1) := by decide +kernel
theorem d_P_onState_34 : decode b_P_onState 34 = .ok (.invokevirtual 235, 3) := by decide +kernel
theorem d_P_onState_37 : decode b_P_onState 37 = .ok (.return_, 1) := by decide +kernel
theorem d_P_sendPrepare_0 : decode b_P_sendPrepare 0 = .ok (.aload_n 0, 1) := by decide +kernel
theorem d_P_sendPrepare_1 : decode b_P_sendPrepare 1 = .ok (.iconst 1, 1) := by decide +kernel
theorem d_P_sendPrepare_2 : decode b_P_sendPrepare 2 = .ok (.aload_n 1, 1) := by decide +kernel
theorem d_P_sendPrepare_3 : decode b_P_sendPrepare 3 = .ok (.getfield 82, 3) := by decide +kernel
theorem d_P_sendPrepare_6 : decode b_P_sendPrepare 6 = .ok (.aload_n 1, 1) := by decide +kernel
theorem d_P_sendPrepare_7 : decode b_P_sendPrepare 7 = .ok (.getfield 244, 3) := by decide +kernel
theorem d_P_sendPrepare_10 : decode b_P_sendPrepare 10 = .ok (.aload_n 1, 1) := by decide +kernel
theorem d_P_sendPrepare_11 : decode b_P_sendPrepare 11 = .ok (.getfield 117, 3) := by decide +kernel
theorem d_P_sendPrepare_14 : decode b_P_sendPrepare 14 = .ok (.getfield 121, 3) := by decide +kernel
theorem d_P_sendPrepare_17 : decode b_P_sendPrepare 17 = .ok (.iconst 1, 1) := by decide +kernel
theorem d_P_sendPrepare_18 : decode b_P_sendPrepare 18 = .ok (.iadd, 1) := by decide +kernel
theorem d_P_sendPrepare_19 : decode b_P_sendPrepare 19 = .ok (.iconst 0, 1) := by decide +kernel
theorem d_P_sendPrepare_20 : decode b_P_sendPrepare 20 = .ok (.invokevirtual 285, 3) := by decide +kernel
theorem d_P_sendPrepare_23 : decode b_P_sendPrepare 23 = .ok (.return_, 1) := by decide +kernel
theorem d_P_sendAccept_0 : decode b_P_sendAccept 0 = .ok (.aload_n 0, 1) := by decide +kernel
theorem d_P_sendAccept_1 : decode b_P_sendAccept 1 = .ok (.iconst 3, 1) := by decide +kernel
theorem d_P_sendAccept_2 : decode b_P_sendAccept 2 = .ok (.aload_n 1, 1) := by decide +kernel
theorem d_P_sendAccept_3 : decode b_P_sendAccept 3 = .ok (.getfield 82, 3) := by decide +kernel
theorem d_P_sendAccept_6 : decode b_P_sendAccept 6 = .ok (.aload_n 1, 1) := by decide +kernel
theorem d_P_sendAccept_7 : decode b_P_sendAccept 7 = .ok (.getfield 244, 3) := by decide +kernel
theorem d_P_sendAccept_10 : decode b_P_sendAccept 10 = .ok (.aload_n 1, 1) := by decide +kernel
theorem d_P_sendAccept_11 : decode b_P_sendAccept 11 = .ok (.getfield 117, 3) := by decide +kernel
theorem d_P_sendAccept_14 : decode b_P_sendAccept 14 = .ok (.getfield 121, 3) := by decide +kernel
theorem d_P_sendAccept_17 : decode b_P_sendAccept 17 = .ok (.iconst 1, 1) := by decide +kernel
theorem d_P_sendAccept_18 : decode b_P_sendAccept 18 = .ok (.iadd, 1) := by decide +kernel
theorem d_P_sendAccept_19 : decode b_P_sendAccept 19 = .ok (.aload_n 1, 1) := by decide +kernel
theorem d_P_sendAccept_20 : decode b_P_sendAccept 20 = .ok (.getfield 173, 3) := by decide +kernel
theorem d_P_sendAccept_23 : decode b_P_sendAccept 23 = .ok (.invokevirtual 285, 3) := by decide +kernel
theorem d_P_sendAccept_26 : decode b_P_sendAccept 26 = .ok (.return_, 1) := by decide +kernel
theorem d_P_sendPromise_0 : decode b_P_sendPromise 0 = .ok (.aload_n 1, 1) := by decide +kernel
theorem d_P_sendPromise_1 : decode b_P_sendPromise 1 = .ok (.aload_n 2, 1) := by decide +kernel
theorem d_P_sendPromise_2 : decode b_P_sendPromise 2 = .ok (.getfield 225, 3) := by decide +kernel
theorem d_P_sendPromise_5 : decode b_P_sendPromise 5 = .ok (.invokevirtual 245, 3) := by decide +kernel
theorem d_P_sendPromise_8 : decode b_P_sendPromise 8 = .ok (.ifCond .eq 14, 3) := by decide +kernel
theorem d_P_sendPromise_11 : decode b_P_sendPromise 11 = .ok (.aload_n 1, 1) := by decide +kernel
theorem d_P_sendPromise_12 : decode b_P_sendPromise 12 = .ok (.invokevirtual 136, 3) := by decide +kernel
theorem d_P_sendPromise_15 : decode b_P_sendPromise 15 = .ok (.ifCond .eq 7, 3) := by decide +kernel
theorem d_P_sendPromise_18 : decode b_P_sendPromise 18 = .ok (.iconst 1, 1) := by decide +kernel
theorem d_P_sendPromise_19 : decode b_P_sendPromise 19 = .ok (.goto 4, 3) := by decide +kernel
theorem d_P_sendPromise_22 : decode b_P_sendPromise 22 = .ok (.iconst 0, 1) := by decide +kernel
theorem d_P_sendPromise_23 : decode b_P_sendPromise 23 = .ok (.istore_n 3, 1) := by decide +kernel
theorem d_P_sendPromise_24 : decode b_P_sendPromise 24 = .ok (.iload_n 3, 1) := by decide +kernel
theorem d_P_sendPromise_25 : decode b_P_sendPromise 25 = .ok (.ifCond .eq 10, 3) := by decide +kernel
theorem d_P_sendPromise_28 : decode b_P_sendPromise 28 = .ok (.aload_n 1, 1) := by decide +kernel
theorem d_P_sendPromise_29 : decode b_P_sendPromise 29 = .ok (.getfield 143, 3) := by decide +kernel
theorem d_P_sendPromise_32 : decode b_P_sendPromise 32 = .ok (.goto 4, 3) := by decide +kernel
theorem d_P_sendPromise_35 : decode b_P_sendPromise 35 = .ok (.iconst 0, 1) := by decide +kernel
theorem d_P_sendPromise_36 : decode b_P_sendPromise 36 = .ok (.istore 4, 2) := by decide +kernel
theorem d_P_sendPromise_38 : decode b_P_sendPromise 38 = .ok (.iload_n 3, 1) := by decide +kernel
theorem d_P_sendPromise_39 : decode b_P_sendPromise 39 = .ok (.ifCond .eq 10, 3) := by decide +kernel
theorem d_P_sendPromise_42 : decode b_P_sendPromise 42 = .ok (.aload_n 1, 1) := by decide +kernel
theorem d_P_sendPromise_43 : decode b_P_sendPromise 43 = .ok (.getfield 140, 3) := by decide +kernel
theorem d_P_sendPromise_46 : decode b_P_sendPromise 46 = .ok (.goto 4, 3) := by decide +kernel
theorem d_P_sendPromise_49 : decode b_P_sendPromise 49 = .ok (.iconst 0, 1) := by decide +kernel
theorem d_P_sendPromise_50 : decode b_P_sendPromise 50 = .ok (.istore 5, 2) := by decide +kernel
theorem d_P_sendPromise_52 : decode b_P_sendPromise 52 = .ok (.aload_n 0, 1) := by decide +kernel
theorem d_P_sendPromise_53 : decode b_P_sendPromise 53 = .ok (.getfield 37, 3) := by decide +kernel
theorem d_P_sendPromise_56 : decode b_P_sendPromise 56 = .ok (.iconst 2, 1) := by decide +kernel
theorem d_P_sendPromise_57 : decode b_P_sendPromise 57 = .ok (.aload_n 1, 1) := by decide +kernel
theorem d_P_sendPromise_58 : decode b_P_sendPromise 58 = .ok (.getfield 82, 3) := by decide +kernel
theorem d_P_sendPromise_61 : decode b_P_sendPromise 61 = .ok (.aload_n 2, 1) := by decide +kernel
theorem d_P_sendPromise_62 : decode b_P_sendPromise 62 = .ok (.getfield 228, 3) := by decide +kernel
theorem d_P_sendPromise_65 : decode b_P_sendPromise 65 = .ok (.aload_n 2, 1) := by decide +kernel
theorem d_P_sendPromise_66 : decode b_P_sendPromise 66 = .ok (.getfield 198, 3) := by decide +kernel
theorem d_P_sendPromise_69 : decode b_P_sendPromise 69 = .ok (.aload_n 2, 1) := by decide +kernel
theorem d_P_sendPromise_70 : decode b_P_sendPromise 70 = .ok (.getfield 225, 3) := by decide +kernel
theorem d_P_sendPromise_73 : decode b_P_sendPromise 73 = .ok (.iload 4, 2) := by decide +kernel
theorem d_P_sendPromise_75 : decode b_P_sendPromise 75 = .ok (.iload 5, 2) := by decide +kernel
theorem d_P_sendPromise_77 : decode b_P_sendPromise 77 = .ok (.invokevirtual 281, 3) := by decide +kernel
theorem d_P_sendPromise_80 : decode b_P_sendPromise 80 = .ok (.return_, 1) := by decide +kernel
theorem d_P_ask_0 : decode b_P_ask 0 = .ok (.aload_n 0, 1) := by decide +kernel
theorem d_P_ask_1 : decode b_P_ask 1 = .ok (.getfield 37, 3) := by decide +kernel
theorem d_P_ask_4 : decode b_P_ask 4 = .ok (.bipush 6, 2) := by decide +kernel
theorem d_P_ask_6 : decode b_P_ask 6 = .ok (.aload_n 1, 1) := by decide +kernel
theorem d_P_ask_7 : decode b_P_ask 7 = .ok (.getfield 82, 3) := by decide +kernel
theorem d_P_ask_10 : decode b_P_ask 10 = .ok (.iload_n 2, 1) := by decide +kernel
theorem d_P_ask_11 : decode b_P_ask 11 = .ok (.iconst 0, 1) := by decide +kernel
theorem d_P_ask_12 : decode b_P_ask 12 = .ok (.aload_n 1, 1) := by decide +kernel
theorem d_P_ask_13 : decode b_P_ask 13 = .ok (.getfield 117, 3) := by decide +kernel
theorem d_P_ask_16 : decode b_P_ask 16 = .ok (.getfield 121, 3) := by decide +kernel
theorem d_P_ask_19 : decode b_P_ask 19 = .ok (.iconst 1, 1) := by decide +kernel
theorem d_P_ask_20 : decode b_P_ask 20 = .ok (.iadd, 1) := by decide +kernel
theorem d_P_ask_21 : decode b_P_ask 21 = .ok (.iconst 0, 1) := by decide +kernel
theorem d_P_ask_22 : decode b_P_ask 22 = .ok (.iconst 0, 1) := by decide +kernel
theorem d_P_ask_23 : decode b_P_ask 23 = .ok (.invokevirtual 281, 3) := by decide +kernel
theorem d_P_ask_26 : decode b_P_ask 26 = .ok (.return_, 1) := by decide +kernel
theorem d_P_deny_0 : decode b_P_deny 0 = .ok (.aload_n 0, 1) := by decide +kernel
theorem d_P_deny_1 : decode b_P_deny 1 = .ok (.getfield 37, 3) := by decide +kernel
theorem d_P_deny_4 : decode b_P_deny 4 = .ok (.bipush 7, 2) := by decide +kernel
theorem d_P_deny_6 : decode b_P_deny 6 = .ok (.aload_n 1, 1) := by decide +kernel
theorem d_P_deny_7 : decode b_P_deny 7 = .ok (.getfield 82, 3) := by decide +kernel
theorem d_P_deny_10 : decode b_P_deny 10 = .ok (.iload_n 2, 1) := by decide +kernel
theorem d_P_deny_11 : decode b_P_deny 11 = .ok (.aload_n 1, 1) := by decide +kernel
theorem d_P_deny_12 : decode b_P_deny 12 = .ok (.getfield 133, 3) := by decide +kernel
theorem d_P_deny_15 : decode b_P_deny 15 = .ok (.iconst 0, 1) := by decide +kernel
theorem d_P_deny_16 : decode b_P_deny 16 = .ok (.iconst 0, 1) := by decide +kernel
theorem d_P_deny_17 : decode b_P_deny 17 = .ok (.iconst 0, 1) := by decide +kernel
theorem d_P_deny_18 : decode b_P_deny 18 = .ok (.invokevirtual 281, 3) := by decide +kernel
theorem d_P_deny_21 : decode b_P_deny 21 = .ok (.return_, 1) := by decide +kernel
theorem d_P_help_0 : decode b_P_help 0 = .ok (.aload_n 1, 1) := by decide +kernel
theorem d_P_help_1 : decode b_P_help 1 = .ok (.getfield 117, 3) := by decide +kernel
theorem d_P_help_4 : decode b_P_help 4 = .ok (.iload_n 3, 1) := by decide +kernel
theorem d_P_help_5 : decode b_P_help 5 = .ok (.invokevirtual 298, 3) := by decide +kernel
theorem d_P_help_8 : decode b_P_help 8 = .ok (.ifCond .eq 30, 3) := by decide +kernel
theorem d_P_help_11 : decode b_P_help 11 = .ok (.aload_n 0, 1) := by decide +kernel
theorem d_P_help_12 : decode b_P_help 12 = .ok (.getfield 37, 3) := by decide +kernel
theorem d_P_help_15 : decode b_P_help 15 = .ok (.iconst 5, 1) := by decide +kernel
theorem d_P_help_16 : decode b_P_help 16 = .ok (.aload_n 1, 1) := by decide +kernel
theorem d_P_help_17 : decode b_P_help 17 = .ok (.getfield 82, 3) := by decide +kernel
theorem d_P_help_20 : decode b_P_help 20 = .ok (.iload_n 2, 1) := by decide +kernel
theorem d_P_help_21 : decode b_P_help 21 = .ok (.iconst 0, 1) := by decide +kernel
theorem d_P_help_22 : decode b_P_help 22 = .ok (.iload_n 3, 1) := by decide +kernel
theorem d_P_help_23 : decode b_P_help 23 = .ok (.aload_n 1, 1) := by decide +kernel
theorem d_P_help_24 : decode b_P_help 24 = .ok (.getfield 117, 3) := by decide +kernel
theorem d_P_help_27 : decode b_P_help 27 = .ok (.iload_n 3, 1) := by decide +kernel
theorem d_P_help_28 : decode b_P_help 28 = .ok (.invokevirtual 150, 3) := by decide +kernel
theorem d_P_help_31 : decode b_P_help 31 = .ok (.iconst 0, 1) := by decide +kernel
theorem d_P_help_32 : decode b_P_help 32 = .ok (.invokevirtual 281, 3) := by decide +kernel
theorem d_P_help_35 : decode b_P_help 35 = .ok (.goto 33, 3) := by decide +kernel
theorem d_P_help_38 : decode b_P_help 38 = .ok (.aload_n 0, 1) := by decide +kernel
theorem d_P_help_39 : decode b_P_help 39 = .ok (.getfield 37, 3) := by decide +kernel
theorem d_P_help_42 : decode b_P_help 42 = .ok (.bipush 8, 2) := by decide +kernel
theorem d_P_help_44 : decode b_P_help 44 = .ok (.aload_n 1, 1) := by decide +kernel
theorem d_P_help_45 : decode b_P_help 45 = .ok (.getfield 82, 3) := by decide +kernel
theorem d_P_help_48 : decode b_P_help 48 = .ok (.iload_n 2, 1) := by decide +kernel
theorem d_P_help_49 : decode b_P_help 49 = .ok (.iconst 0, 1) := by decide +kernel
theorem d_P_help_50 : decode b_P_help 50 = .ok (.aload_n 1, 1) := by decide +kernel
theorem d_P_help_51 : decode b_P_help 51 = .ok (.getfield 117, 3) := by decide +kernel
theorem d_P_help_54 : decode b_P_help 54 = .ok (.getfield 121, 3) := by decide +kernel
theorem d_P_help_57 : decode b_P_help 57 = .ok (.aload_n 1, 1) := by decide +kernel
theorem d_P_help_58 : decode b_P_help 58 = .ok (.getfield 117, 3) := by decide +kernel
theorem d_P_help_61 : decode b_P_help 61 = .ok (.getfield 126, 3) := by decide +kernel
theorem d_P_help_64 : decode b_P_help 64 = .ok (.iconst 0, 1) := by decide +kernel
theorem d_P_help_65 : decode b_P_help 65 = .ok (.invokevirtual 281, 3) := by decide +kernel
theorem d_P_help_68 : decode b_P_help 68 = .ok (.return_, 1) := by decide +kernel
theorem d_P_sendToAll_0 : decode b_P_sendToAll 0 = .ok (.iconst 0, 1) := by decide +kernel
theorem d_P_sendToAll_1 : decode b_P_sendToAll 1 = .ok (.istore 6, 2) := by decide +kernel
theorem d_P_sendToAll_3 : decode b_P_sendToAll 3 = .ok (.iload 6, 2) := by decide +kernel
theorem d_P_sendToAll_5 : decode b_P_sendToAll 5 = .ok (.aload_n 0, 1) := by decide +kernel
theorem d_P_sendToAll_6 : decode b_P_sendToAll 6 = .ok (.getfield 18, 3) := by decide +kernel
theorem d_P_sendToAll_9 : decode b_P_sendToAll 9 = .ok (.if_icmp .ge 32, 3) := by decide +kernel
theorem d_P_sendToAll_12 : decode b_P_sendToAll 12 = .ok (.iload 6, 2) := by decide +kernel
theorem d_P_sendToAll_14 : decode b_P_sendToAll 14 = .ok (.iload_n 2, 1) := by decide +kernel
theorem d_P_sendToAll_15 : decode b_P_sendToAll 15 = .ok (.if_icmp .eq 20, 3) := by decide +kernel
