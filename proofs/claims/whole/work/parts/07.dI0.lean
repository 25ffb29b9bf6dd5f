theorem d_F_init_0 : decode b_F_init 0 = .ok (.aload_n 0, 1) := by decide +kernel
theorem d_F_init_1 : decode b_F_init 1 = .ok (.invokespecial 3, 3) := by decide +kernel
theorem d_F_init_4 : decode b_F_init 4 = .ok (.aload_n 0, 1) := by decide +kernel
theorem d_F_init_5 : decode b_F_init 5 = .ok (.sipush 1400, 3) := by decide +kernel
theorem d_F_init_8 : decode b_F_init 8 = .ok (.newarray .int, 2) := by decide +kernel
theorem d_F_init_10 : decode b_F_init 10 = .ok (.putfield 11, 3) := by decide +kernel
theorem d_F_init_13 : decode b_F_init 13 = .ok (.return_, 1) := by decide +kernel
theorem d_F_has_0 : decode b_F_has 0 = .ok (.iload_n 1, 1) := by decide +kernel
theorem d_F_has_1 : decode b_F_has 1 = .ok (.ifCond .lt 15, 3) := by decide +kernel
theorem d_F_has_4 : decode b_F_has 4 = .ok (.iload_n 1, 1) := by decide +kernel
theorem d_F_has_5 : decode b_F_has 5 = .ok (.aload_n 0, 1) := by decide +kernel
theorem d_F_has_6 : decode b_F_has 6 = .ok (.getfield 15, 3) := by decide +kernel
theorem d_F_has_9 : decode b_F_has 9 = .ok (.if_icmp .ge 7, 3) := by decide +kernel
theorem d_F_has_12 : decode b_F_has 12 = .ok (.iconst 1, 1) := by decide +kernel
theorem d_F_has_13 : decode b_F_has 13 = .ok (.goto 4, 3) := by decide +kernel
theorem d_F_has_16 : decode b_F_has 16 = .ok (.iconst 0, 1) := by decide +kernel
theorem d_F_has_17 : decode b_F_has 17 = .ok (.ireturn, 1) := by decide +kernel
theorem d_F_cell_0 : decode b_F_cell 0 = .ok (.aload_n 0, 1) := by decide +kernel
theorem d_F_cell_1 : decode b_F_cell 1 = .ok (.iload_n 1, 1) := by decide +kernel
theorem d_F_cell_2 : decode b_F_cell 2 = .ok (.invokevirtual 19, 3) := by decide +kernel
theorem d_F_cell_5 : decode b_F_cell 5 = .ok (.ifCond .eq 27, 3) := by decide +kernel
theorem d_F_cell_8 : decode b_F_cell 8 = .ok (.iload_n 2, 1) := by decide +kernel
theorem d_F_cell_9 : decode b_F_cell 9 = .ok (.ifCond .lt 23, 3) := by decide +kernel
theorem d_F_cell_12 : decode b_F_cell 12 = .ok (.iload_n 2, 1) := by decide +kernel
theorem d_F_cell_13 : decode b_F_cell 13 = .ok (.bipush 7, 2) := by decide +kernel
theorem d_F_cell_15 : decode b_F_cell 15 = .ok (.if_icmp .ge 17, 3) := by decide +kernel
theorem d_F_cell_18 : decode b_F_cell 18 = .ok (.aload_n 0, 1) := by decide +kernel
theorem d_F_cell_19 : decode b_F_cell 19 = .ok (.getfield 11, 3) := by decide +kernel
theorem d_F_cell_22 : decode b_F_cell 22 = .ok (.iload_n 1, 1) := by decide +kernel
theorem d_F_cell_23 : decode b_F_cell 23 = .ok (.bipush 7, 2) := by decide +kernel
theorem d_F_cell_25 : decode b_F_cell 25 = .ok (.imul, 1) := by decide +kernel
theorem d_F_cell_26 : decode b_F_cell 26 = .ok (.iload_n 2, 1) := by decide +kernel
theorem d_F_cell_27 : decode b_F_cell 27 = .ok (.iadd, 1) := by decide +kernel
theorem d_F_cell_28 : decode b_F_cell 28 = .ok (.iaload, 1) := by decide +kernel
theorem d_F_cell_29 : decode b_F_cell 29 = .ok (.goto 4, 3) := by decide +kernel
theorem d_F_cell_32 : decode b_F_cell 32 = .ok (.iconst (-1), 1) := by decide +kernel
theorem d_F_cell_33 : decode b_F_cell 33 = .ok (.ireturn, 1) := by decide +kernel
theorem d_F_send_0 : decode b_F_send 0 = .ok (.aload_n 0, 1) := by decide +kernel
theorem d_F_send_1 : decode b_F_send 1 = .ok (.dup, 1) := by decide +kernel
theorem d_F_send_2 : decode b_F_send 2 = .ok (.getfield 23, 3) := by decide +kernel
theorem d_F_send_5 : decode b_F_send 5 = .ok (.iconst 1, 1) := by decide +kernel
theorem d_F_send_6 : decode b_F_send 6 = .ok (.iadd, 1) := by decide +kernel
theorem d_F_send_7 : decode b_F_send 7 = .ok (.putfield 23, 3) := by decide +kernel
theorem d_F_send_10 : decode b_F_send 10 = .ok (.aload_n 0, 1) := by decide +kernel
theorem d_F_send_11 : decode b_F_send 11 = .ok (.getfield 15, 3) := by decide +kernel
theorem d_F_send_14 : decode b_F_send 14 = .ok (.sipush 200, 3) := by decide +kernel
theorem d_F_send_17 : decode b_F_send 17 = .ok (.if_icmp .lt 14, 3) := by decide +kernel
theorem d_F_send_20 : decode b_F_send 20 = .ok (.aload_n 0, 1) := by decide +kernel
theorem d_F_send_21 : decode b_F_send 21 = .ok (.dup, 1) := by decide +kernel
theorem d_F_send_22 : decode b_F_send 22 = .ok (.getfield 26, 3) := by decide +kernel
theorem d_F_send_25 : decode b_F_send 25 = .ok (.iconst 1, 1) := by decide +kernel
theorem d_F_send_26 : decode b_F_send 26 = .ok (.iadd, 1) := by decide +kernel
theorem d_F_send_27 : decode b_F_send 27 = .ok (.putfield 26, 3) := by decide +kernel
theorem d_F_send_30 : decode b_F_send 30 = .ok (.return_, 1) := by decide +kernel
theorem d_F_send_31 : decode b_F_send 31 = .ok (.aload_n 0, 1) := by decide +kernel
theorem d_F_send_32 : decode b_F_send 32 = .ok (.getfield 15, 3) := by decide +kernel
theorem d_F_send_35 : decode b_F_send 35 = .ok (.bipush 7, 2) := by decide +kernel
theorem d_F_send_37 : decode b_F_send 37 = .ok (.imul, 1) := by decide +kernel
theorem d_F_send_38 : decode b_F_send 38 = .ok (.istore 8, 2) := by decide +kernel
theorem d_F_send_40 : decode b_F_send 40 = .ok (.aload_n 0, 1) := by decide +kernel
theorem d_F_send_41 : decode b_F_send 41 = .ok (.getfield 11, 3) := by decide +kernel
theorem d_F_send_44 : decode b_F_send 44 = .ok (.iload 8, 2) := by decide +kernel
theorem d_F_send_46 : decode b_F_send 46 = .ok (.iload_n 1, 1) := by decide +kernel
theorem d_F_send_47 : decode b_F_send 47 = .ok (.iastore, 1) := by decide +kernel
theorem d_F_send_48 : decode b_F_send 48 = .ok (.aload_n 0, 1) := by decide +kernel
theorem d_F_send_49 : decode b_F_send 49 = .ok (.getfield 11, 3) := by decide +kernel
theorem d_F_send_52 : decode b_F_send 52 = .ok (.iload 8, 2) := by decide +kernel
theorem d_F_send_54 : decode b_F_send 54 = .ok (.iconst 1, 1) := by decide +kernel
theorem d_F_send_55 : decode b_F_send 55 = .ok (.iadd, 1) := by decide +kernel
theorem d_F_send_56 : decode b_F_send 56 = .ok (.iload_n 2, 1) := by decide +kernel
theorem d_F_send_57 : decode b_F_send 57 = .ok (.iastore, 1) := by decide +kernel
theorem d_F_send_58 : decode b_F_send 58 = .ok (.aload_n 0, 1) := by decide +kernel
theorem d_F_send_59 : decode b_F_send 59 = .ok (.getfield 11, 3) := by decide +kernel
theorem d_F_send_62 : decode b_F_send 62 = .ok (.iload 8, 2) := by decide +kernel
theorem d_F_send_64 : decode b_F_send 64 = .ok (.iconst 2, 1) := by decide +kernel
theorem d_F_send_65 : decode b_F_send 65 = .ok (.iadd, 1) := by decide +kernel
theorem d_F_send_66 : decode b_F_send 66 = .ok (.iload_n 3, 1) := by decide +kernel
theorem d_F_send_67 : decode b_F_send 67 = .ok (.iastore, 1) := by decide +kernel
theorem d_F_send_68 : decode b_F_send 68 = .ok (.aload_n 0, 1) := by decide +kernel
theorem d_F_send_69 : decode b_F_send 69 = .ok (.getfield 11, 3) := by decide +kernel
theorem d_F_send_72 : decode b_F_send 72 = .ok (.iload 8, 2) := by decide +kernel
theorem d_F_send_74 : decode b_F_send 74 = .ok (.iconst 3, 1) := by decide +kernel
theorem d_F_send_75 : decode b_F_send 75 = .ok (.iadd, 1) := by decide +kernel
theorem d_F_send_76 : decode b_F_send 76 = .ok (.iload 4, 2) := by decide +kernel
theorem d_F_send_78 : decode b_F_send 78 = .ok (.iastore, 1) := by decide +kernel
theorem d_F_send_79 : decode b_F_send 79 = .ok (.aload_n 0, 1) := by decide +kernel
theorem d_F_send_80 : decode b_F_send 80 = .ok (.getfield 11, 3) := by decide +kernel
theorem d_F_send_83 : decode b_F_send 83 = .ok (.iload 8, 2) := by decide +kernel
theorem d_F_send_85 : decode b_F_send 85 = .ok (.iconst 4, 1) := by decide +kernel
theorem d_F_send_86 : decode b_F_send 86 = .ok (.iadd, 1) := by decide +kernel
theorem d_F_send_87 : decode b_F_send 87 = .ok (.iload 5, 2) := by decide +kernel
theorem d_F_send_89 : decode b_F_send 89 = .ok (.iastore, 1) := by decide +kernel
theorem d_F_send_90 : decode b_F_send 90 = .ok (.aload_n 0, 1) := by decide +kernel
theorem d_F_send_91 : decode b_F_send 91 = .ok (.getfield 11, 3) := by decide +kernel
theorem d_F_send_94 : decode b_F_send 94 = .ok (.iload 8, 2) := by decide +kernel
theorem d_F_send_96 : decode b_F_send 96 = .ok (.iconst 5, 1) := by decide +kernel
theorem d_F_send_97 : decode b_F_send 97 = .ok (.iadd, 1) := by decide +kernel
theorem d_F_send_98 : decode b_F_send 98 = .ok (.iload 6, 2) := by decide +kernel
theorem d_F_send_100 : decode b_F_send 100 = .ok (.iastore, 1) := by decide +kernel
theorem d_F_send_101 : decode b_F_send 101 = .ok (.aload_n 0, 1) := by decide +kernel
theorem d_F_send_102 : decode b_F_send 102 = .ok (.getfield 11, 3) := by decide +kernel
theorem d_F_send_105 : decode b_F_send 105 = .ok (.iload 8, 2) := by decide +kernel
theorem d_F_send_107 : decode b_F_send 107 = .ok (.bipush 6, 2) := by decide +kernel
theorem d_F_send_109 : decode b_F_send 109 = .ok (.iadd, 1) := by decide +kernel
theorem d_F_send_110 : decode b_F_send 110 = .ok (.iload 7, 2) := by decide +kernel
theorem d_F_send_112 : decode b_F_send 112 = .ok (.iastore, 1) := by decide +kernel
theorem d_F_send_113 : decode b_F_send 113 = .ok (.aload_n 0, 1) := by decide +kernel
theorem d_F_send_114 : decode b_F_send 114 = .ok (.dup, 1) := by decide +kernel
theorem d_F_send_115 : decode b_F_send 115 = .ok (.getfield 15, 3) := by decide +kernel
theorem d_F_send_118 : decode b_F_send 118 = .ok (.iconst 1, 1) := by decide +kernel
theorem d_F_send_119 : decode b_F_send 119 = .ok (.iadd, 1) := by decide +kernel
theorem d_F_send_120 : decode b_F_send 120 = .ok (.putfield 15, 3) := by decide +kernel
theorem d_F_send_123 : decode b_F_send 123 = .ok (.return_, 1) := by decide +kernel
theorem d_F_read_0 : decode b_F_read 0 = .ok (.aload_n 2, 1) := by decide +kernel
theorem d_F_read_1 : decode b_F_read 1 = .ok (.aload_n 0, 1) := by decide +kernel
theorem d_F_read_2 : decode b_F_read 2 = .ok (.iload_n 1, 1) := by decide +kernel
theorem d_F_read_3 : decode b_F_read 3 = .ok (.iconst 0, 1) := by decide +kernel
theorem d_F_read_4 : decode b_F_read 4 = .ok (.invokevirtual 29, 3) := by decide +kernel
theorem d_F_read_7 : decode b_F_read 7 = .ok (.putfield 33, 3) := by decide +kernel
theorem d_F_read_10 : decode b_F_read 10 = .ok (.aload_n 2, 1) := by decide +kernel
theorem d_F_read_11 : decode b_F_read 11 = .ok (.aload_n 0, 1) := by decide +kernel
theorem d_F_read_12 : decode b_F_read 12 = .ok (.iload_n 1, 1) := by decide +kernel
theorem d_F_read_13 : decode b_F_read 13 = .ok (.iconst 1, 1) := by decide +kernel
theorem d_F_read_14 : decode b_F_read 14 = .ok (.invokevirtual 29, 3) := by decide +kernel
theorem d_F_read_17 : decode b_F_read 17 = .ok (.putfield 38, 3) := by decide +kernel
theorem d_F_read_20 : decode b_F_read 20 = .ok (.aload_n 2, 1) := by decide +kernel
theorem d_F_read_21 : decode b_F_read 21 = .ok (.aload_n 0, 1) := by decide +kernel
theorem d_F_read_22 : decode b_F_read 22 = .ok (.iload_n 1, 1) := by decide +kernel
theorem d_F_read_23 : decode b_F_read 23 = .ok (.iconst 2, 1) := by decide +kernel
theorem d_F_read_24 : decode b_F_read 24 = .ok (.invokevirtual 29, 3) := by decide +kernel
theorem d_F_read_27 : decode b_F_read 27 = .ok (.putfield 41, 3) := by decide +kernel
theorem d_F_read_30 : decode b_F_read 30 = .ok (.aload_n 2, 1) := by decide +kernel
theorem d_F_read_31 : decode b_F_read 31 = .ok (.aload_n 0, 1) := by decide +kernel
theorem d_F_read_32 : decode b_F_read 32 = .ok (.iload_n 1, 1) := by decide +kernel
theorem d_F_read_33 : decode b_F_read 33 = .ok (.iconst 3, 1) := by decide +kernel
theorem d_F_read_34 : decode b_F_read 34 = .ok (.invokevirtual 29, 3) := by decide +kernel
theorem d_F_read_37 : decode b_F_read 37 = .ok (.putfield 44, 3) := by decide +kernel
theorem d_F_read_40 : decode b_F_read 40 = .ok (.aload_n 2, 1) := by decide +kernel
theorem d_F_read_41 : decode b_F_read 41 = .ok (.aload_n 0, 1) := by decide +kernel
theorem d_F_read_42 : decode b_F_read 42 = .ok (.iload_n 1, 1) := by decide +kernel
theorem d_F_read_43 : decode b_F_read 43 = .ok (.iconst 4, 1) := by decide +kernel
theorem d_F_read_44 : decode b_F_read 44 = .ok (.invokevirtual 29, 3) := by decide +kernel
theorem d_F_read_47 : decode b_F_read 47 = .ok (.putfield 47, 3) := by decide +kernel
theorem d_F_read_50 : decode b_F_read 50 = .ok (.aload_n 2, 1) := by decide +kernel
theorem d_F_read_51 : decode b_F_read 51 = .ok (.aload_n 0, 1) := by decide +kernel
theorem d_F_read_52 : decode b_F_read 52 = .ok (.iload_n 1, 1) := by decide +kernel
theorem d_F_read_53 : decode b_F_read 53 = .ok (.iconst 5, 1) := by decide +kernel
theorem d_F_read_54 : decode b_F_read 54 = .ok (.invokevirtual 29, 3) := by decide +kernel
theorem d_F_read_57 : decode b_F_read 57 = .ok (.putfield 50, 3) := by decide +kernel
theorem d_F_read_60 : decode b_F_read 60 = .ok (.aload_n 2, 1) := by decide +kernel
theorem d_F_read_61 : decode b_F_read 61 = .ok (.aload_n 0, 1) := by decide +kernel
theorem d_F_read_62 : decode b_F_read 62 = .ok (.iload_n 1, 1) := by decide +kernel
theorem d_F_read_63 : decode b_F_read 63 = .ok (.bipush 6, 2) := by decide +kernel
theorem d_F_read_65 : decode b_F_read 65 = .ok (.invokevirtual 29, 3) := by decide +kernel
theorem d_F_read_68 : decode b_F_read 68 = .ok (.putfield 53, 3) := by decide +kernel
theorem d_F_read_71 : decode b_F_read 71 = .ok (.return_, 1) := by decide +kernel
theorem d_F_remove_0 : decode b_F_remove 0 = .ok (.aload_n 0, 1) := by decide +kernel
theorem d_F_remove_1 : decode b_F_remove 1 = .ok (.iload_n 1, 1) := by decide +kernel
theorem d_F_remove_2 : decode b_F_remove 2 = .ok (.invokevirtual 19, 3) := by decide +kernel
theorem d_F_remove_5 : decode b_F_remove 5 = .ok (.ifCond .ne 4, 3) := by decide +kernel
theorem d_F_remove_8 : decode b_F_remove 8 = .ok (.return_, 1) := by decide +kernel
theorem d_F_remove_9 : decode b_F_remove 9 = .ok (.aload_n 0, 1) := by decide +kernel
theorem d_F_remove_10 : decode b_F_remove 10 = .ok (.getfield 15, 3) := by decide +kernel
theorem d_F_remove_13 : decode b_F_remove 13 = .ok (.iload_n 1, 1) := by decide +kernel
theorem d_F_remove_14 : decode b_F_remove 14 = .ok (.isub, 1) := by decide +kernel
theorem d_F_remove_15 : decode b_F_remove 15 = .ok (.iconst 1, 1) := by decide +kernel
theorem d_F_remove_16 : decode b_F_remove 16 = .ok (.isub, 1) := by decide +kernel
theorem d_F_remove_17 : decode b_F_remove 17 = .ok (.istore_n 2, 1) := by decide +kernel
theorem d_F_remove_18 : decode b_F_remove 18 = .ok (.aload_n 0, 1) := by decide +kernel
theorem d_F_remove_19 : decode b_F_remove 19 = .ok (.getfield 11, 3) := by decide +kernel
theorem d_F_remove_22 : decode b_F_remove 22 = .ok (.iload_n 1, 1) := by decide +kernel
theorem d_F_remove_23 : decode b_F_remove 23 = .ok (.iconst 1, 1) := by decide +kernel
theorem d_F_remove_24 : decode b_F_remove 24 = .ok (.iadd, 1) := by decide +kernel
theorem d_F_remove_25 : decode b_F_remove 25 = .ok (.bipush 7, 2) := by decide +kernel
theorem d_F_remove_27 : decode b_F_remove 27 = .ok (.imul, 1) := by decide +kernel
theorem d_F_remove_28 : decode b_F_remove 28 = .ok (.aload_n 0, 1) := by decide +kernel
theorem d_F_remove_29 : decode b_F_remove 29 = .ok (.getfield 11, 3) := by decide +kernel
theorem d_F_remove_32 : decode b_F_remove 32 = .ok (.iload_n 1, 1) := by decide +kernel
theorem d_F_remove_33 : decode b_F_remove 33 = .ok (.bipush 7, 2) := by decide +kernel
theorem d_F_remove_35 : decode b_F_remove 35 = .ok (.imul, 1) := by decide +kernel
theorem d_F_remove_36 : decode b_F_remove 36 = .ok (.iload_n 2, 1) := by decide +kernel
theorem d_F_remove_37 : decode b_F_remove 37 = .ok (.bipush 7, 2) := by decide +kernel
theorem d_F_remove_39 : decode b_F_remove 39 = .ok (.imul, 1) := by decide +kernel
theorem d_F_remove_40 : decode b_F_remove 40 = .ok (.invokestatic 56, 3) := by decide +kernel
theorem d_F_remove_43 : decode b_F_remove 43 = .ok (.aload_n 0, 1) := by decide +kernel
theorem d_F_remove_44 : decode b_F_remove 44 = .ok (.dup, 1) := by decide +kernel
theorem d_F_remove_45 : decode b_F_remove 45 = .ok (.getfield 15, 3) := by decide +kernel
theorem d_F_remove_48 : decode b_F_remove 48 = .ok (.iconst 1, 1) := by decide +kernel
theorem d_F_remove_49 : decode b_F_remove 49 = .ok (.isub, 1) := by decide +kernel
theorem d_F_remove_50 : decode b_F_remove 50 = .ok (.putfield 15, 3) := by decide +kernel
theorem d_F_remove_53 : decode b_F_remove 53 = .ok (.return_, 1) := by decide +kernel
theorem d_F_repeat_0 : decode b_F_repeat 0 = .ok (.aload_n 0, 1) := by decide +kernel
theorem d_F_repeat_1 : decode b_F_repeat 1 = .ok (.iload_n 1, 1) := by decide +kernel
theorem d_F_repeat_2 : decode b_F_repeat 2 = .ok (.invokevirtual 19, 3) := by decide +kernel
theorem d_F_repeat_5 : decode b_F_repeat 5 = .ok (.ifCond .eq 13, 3) := by decide +kernel
theorem d_F_repeat_8 : decode b_F_repeat 8 = .ok (.aload_n 0, 1) := by decide +kernel
theorem d_F_repeat_9 : decode b_F_repeat 9 = .ok (.getfield 15, 3) := by decide +kernel
theorem d_F_repeat_12 : decode b_F_repeat 12 = .ok (.sipush 200, 3) := by decide +kernel
theorem d_F_repeat_15 : decode b_F_repeat 15 = .ok (.if_icmp .lt 5, 3) := by decide +kernel
theorem d_F_repeat_18 : decode b_F_repeat 18 = .ok (.iconst 0, 1) := by decide +kernel
theorem d_F_repeat_19 : decode b_F_repeat 19 = .ok (.ireturn, 1) := by decide +kernel
theorem d_F_repeat_20 : decode b_F_repeat 20 = .ok (.aload_n 0, 1) := by decide +kernel
theorem d_F_repeat_21 : decode b_F_repeat 21 = .ok (.getfield 11, 3) := by decide +kernel
theorem d_F_repeat_24 : decode b_F_repeat 24 = .ok (.iload_n 1, 1) := by decide +kernel
theorem d_F_repeat_25 : decode b_F_repeat 25 = .ok (.bipush 7, 2) := by decide +kernel
theorem d_F_repeat_27 : decode b_F_repeat 27 = .ok (.imul, 1) := by decide +kernel
theorem d_F_repeat_28 : decode b_F_repeat 28 = .ok (.aload_n 0, 1) := by decide +kernel
theorem d_F_repeat_29 : decode b_F_repeat 29 = .ok (.getfield 11, 3) := by decide +kernel
theorem d_F_repeat_32 : decode b_F_repeat 32 = .ok (.aload_n 0, 1) := by decide +kernel
theorem d_F_repeat_33 : decode b_F_repeat 33 = .ok (.getfield 15, 3) := by decide +kernel
theorem d_F_repeat_36 : decode b_F_repeat 36 = .ok (.bipush 7, 2) := by decide +kernel
theorem d_F_repeat_38 : decode b_F_repeat 38 = .ok (.imul, 1) := by decide +kernel
theorem d_F_repeat_39 : decode b_F_repeat 39 = .ok (.bipush 7, 2) := by decide +kernel
theorem d_F_repeat_41 : decode b_F_repeat 41 = .ok (.invokestatic 56, 3) := by decide +kernel
theorem d_F_repeat_44 : decode b_F_repeat 44 = .ok (.aload_n 0, 1) := by decide +kernel
theorem d_F_repeat_45 : decode b_F_repeat 45 = .ok (.dup, 1) := by decide +kernel
theorem d_F_repeat_46 : decode b_F_repeat 46 = .ok (.getfield 15, 3) := by decide +kernel
theorem d_F_repeat_49 : decode b_F_repeat 49 = .ok (.iconst 1, 1) := by decide +kernel
theorem d_F_repeat_50 : decode b_F_repeat 50 = .ok (.iadd, 1) := by decide +kernel
theorem d_F_repeat_51 : decode b_F_repeat 51 = .ok (.putfield 15, 3) := by decide +kernel
theorem d_F_repeat_54 : decode b_F_repeat 54 = .ok (.iconst 1, 1) := by decide +kernel
theorem d_F_repeat_55 : decode b_F_repeat 55 = .ok (.ireturn, 1) := by decide +kernel
theorem d_L_init_0 : decode b_L_init 0 = .ok (.aload_n 0, 1) := by decide +kernel
theorem d_L_init_1 : decode b_L_init 1 = .ok (.invokespecial 3, 3) := by decide +kernel
theorem d_L_init_4 : decode b_L_init 4 = .ok (.aload_n 0, 1) := by decide +kernel
theorem d_L_init_5 : decode b_L_init 5 = .ok (.bipush 8, 2) := by decide +kernel
theorem d_L_init_7 : decode b_L_init 7 = .ok (.newarray .int, 2) := by decide +kernel
theorem d_L_init_9 : decode b_L_init 9 = .ok (.putfield 9, 3) := by decide +kernel
theorem d_L_init_12 : decode b_L_init 12 = .ok (.return_, 1) := by decide +kernel
theorem d_L_add_0 : decode b_L_add 0 = .ok (.aload_n 0, 1) := by decide +kernel
theorem d_L_add_1 : decode b_L_add 1 = .ok (.getfield 15, 3) := by decide +kernel
theorem d_L_add_4 : decode b_L_add 4 = .ok (.bipush 8, 2) := by decide +kernel
theorem d_L_add_6 : decode b_L_add 6 = .ok (.if_icmp .lt 5, 3) := by decide +kernel
theorem d_L_add_9 : decode b_L_add 9 = .ok (.iconst 0, 1) := by decide +kernel
theorem d_L_add_10 : decode b_L_add 10 = .ok (.ireturn, 1) := by decide +kernel
theorem d_L_add_11 : decode b_L_add 11 = .ok (.aload_n 0, 1) := by decide +kernel
theorem d_L_add_12 : decode b_L_add 12 = .ok (.getfield 9, 3) := by decide +kernel
theorem d_L_add_15 : decode b_L_add 15 = .ok (.aload_n 0, 1) := by decide +kernel
theorem d_L_add_16 : decode b_L_add 16 = .ok (.getfield 15, 3) := by decide +kernel
theorem d_L_add_19 : decode b_L_add 19 = .ok (.iload_n 1, 1) := by decide +kernel
theorem d_L_add_20 : decode b_L_add 20 = .ok (.iastore, 1) := by decide +kernel
theorem d_L_add_21 : decode b_L_add 21 = .ok (.aload_n 0, 1) := by decide +kernel
theorem d_L_add_22 : decode b_L_add 22 = .ok (.dup, 1) := by decide +kernel
theorem d_L_add_23 : decode b_L_add 23 = .ok (.getfield 15, 3) := by decide +kernel
theorem d_L_add_26 : decode b_L_add 26 = .ok (.iconst 1, 1) := by decide +kernel
theorem d_L_add_27 : decode b_L_add 27 = .ok (.iadd, 1) := by decide +kernel
theorem d_L_add_28 : decode b_L_add 28 = .ok (.putfield 15, 3) := by decide +kernel
theorem d_L_add_31 : decode b_L_add 31 = .ok (.iconst 1, 1) := by decide +kernel
theorem d_L_add_32 : decode b_L_add 32 = .ok (.ireturn, 1) := by decide +kernel
theorem d_L_at_0 : decode b_L_at 0 = .ok (.iload_n 1, 1) := by decide +kernel
theorem d_L_at_1 : decode b_L_at 1 = .ok (.ifCond .lt 20, 3) := by decide +kernel
theorem d_L_at_4 : decode b_L_at 4 = .ok (.iload_n 1, 1) := by decide +kernel
theorem d_L_at_5 : decode b_L_at 5 = .ok (.aload_n 0, 1) := by decide +kernel
theorem d_L_at_6 : decode b_L_at 6 = .ok (.getfield 15, 3) := by decide +kernel
theorem d_L_at_9 : decode b_L_at 9 = .ok (.if_icmp .ge 12, 3) := by decide +kernel
theorem d_L_at_12 : decode b_L_at 12 = .ok (.aload_n 0, 1) := by decide +kernel
theorem d_L_at_13 : decode b_L_at 13 = .ok (.getfield 9, 3) := by decide +kernel
theorem d_L_at_16 : decode b_L_at 16 = .ok (.iload_n 1, 1) := by decide +kernel
theorem d_L_at_17 : decode b_L_at 17 = .ok (.iaload, 1) := by decide +kernel
theorem d_L_at_18 : decode b_L_at 18 = .ok (.goto 4, 3) := by decide +kernel
theorem d_L_at_21 : decode b_L_at 21 = .ok (.iconst 0, 1) := by decide +kernel
theorem d_L_at_22 : decode b_L_at 22 = .ok (.ireturn, 1) := by decide +kernel
theorem d_L_drop_0 : decode b_L_drop 0 = .ok (.iconst 0, 1) := by decide +kernel
theorem d_L_drop_1 : decode b_L_drop 1 = .ok (.istore_n 2, 1) := by decide +kernel
theorem d_L_drop_2 : decode b_L_drop 2 = .ok (.iconst 0, 1) := by decide +kernel
theorem d_L_drop_3 : decode b_L_drop 3 = .ok (.istore_n 3, 1) := by decide +kernel
theorem d_L_drop_4 : decode b_L_drop 4 = .ok (.iload_n 3, 1) := by decide +kernel
theorem d_L_drop_5 : decode b_L_drop 5 = .ok (.aload_n 0, 1) := by decide +kernel
theorem d_L_drop_6 : decode b_L_drop 6 = .ok (.getfield 15, 3) := by decide +kernel
theorem d_L_drop_9 : decode b_L_drop 9 = .ok (.if_icmp .ge 34, 3) := by decide +kernel
theorem d_L_drop_12 : decode b_L_drop 12 = .ok (.aload_n 0, 1) := by decide +kernel
theorem d_L_drop_13 : decode b_L_drop 13 = .ok (.getfield 9, 3) := by decide +kernel
theorem d_L_drop_16 : decode b_L_drop 16 = .ok (.iload_n 3, 1) := by decide +kernel
theorem d_L_drop_17 : decode b_L_drop 17 = .ok (.iaload, 1) := by decide +kernel
theorem d_L_drop_18 : decode b_L_drop 18 = .ok (.iload_n 1, 1) := by decide +kernel
theorem d_L_drop_19 : decode b_L_drop 19 = .ok (.if_icmp .eq 18, 3) := by decide +kernel
theorem d_L_drop_22 : decode b_L_drop 22 = .ok (.aload_n 0, 1) := by decide +kernel
theorem d_L_drop_23 : decode b_L_drop 23 = .ok (.getfield 9, 3) := by decide +kernel
theorem d_L_drop_26 : decode b_L_drop 26 = .ok (.iload_n 2, 1) := by decide +kernel
theorem d_L_drop_27 : decode b_L_drop 27 = .ok (.aload_n 0, 1) := by decide +kernel
theorem d_L_drop_28 : decode b_L_drop 28 = .ok (.getfield 9, 3) := by decide +kernel
theorem d_L_drop_31 : decode b_L_drop 31 = .ok (.iload_n 3, 1) := by decide +kernel
theorem d_L_drop_32 : decode b_L_drop 32 = .ok (.iaload, 1) := by decide +kernel
theorem d_L_drop_33 : decode b_L_drop 33 = .ok (.iastore, 1) := by decide +kernel
theorem d_L_drop_34 : decode b_L_drop 34 = .ok (.iinc 2 1, 3) := by decide +kernel
theorem d_L_drop_37 : decode b_L_drop 37 = .ok (.iinc 3 1, 3) := by decide +kernel
theorem d_L_drop_40 : decode b_L_drop 40 = .ok (.goto (-36), 3) := by decide +kernel
theorem d_L_drop_43 : decode b_L_drop 43 = .ok (.aload_n 0, 1) := by decide +kernel
theorem d_L_drop_44 : decode b_L_drop 44 = .ok (.iload_n 2, 1) := by decide +kernel
theorem d_L_drop_45 : decode b_L_drop 45 = .ok (.putfield 15, 3) := by decide +kernel
theorem d_L_drop_48 : decode b_L_drop 48 = .ok (.return_, 1) := by decide +kernel
theorem d_G_init_0 : decode b_G_init 0 = .ok (.aload_n 0, 1) := by decide +kernel
theorem d_G_init_1 : decode b_G_init 1 = .ok (.invokespecial 3, 3) := by decide +kernel
theorem d_G_init_4 : decode b_G_init 4 = .ok (.aload_n 0, 1) := by decide +kernel
theorem d_G_init_5 : decode b_G_init 5 = .ok (.iload_n 1, 1) := by decide +kernel
theorem d_G_init_6 : decode b_G_init 6 = .ok (.putfield 9, 3) := by decide +kernel
theorem d_G_init_9 : decode b_G_init 9 = .ok (.aload_n 0, 1) := by decide +kernel
theorem d_G_init_10 : decode b_G_init 10 = .ok (.bipush 32, 2) := by decide +kernel
theorem d_G_init_12 : decode b_G_init 12 = .ok (.newarray .int, 2) := by decide +kernel
theorem d_G_init_14 : decode b_G_init 14 = .ok (.putfield 15, 3) := by decide +kernel
theorem d_G_init_17 : decode b_G_init 17 = .ok (.return_, 1) := by decide +kernel
theorem d_G_ahead_0 : decode b_G_ahead 0 = .ok (.aload_n 0, 1) := by decide +kernel
theorem d_G_ahead_1 : decode b_G_ahead 1 = .ok (.getfield 19, 3) := by decide +kernel
theorem d_G_ahead_4 : decode b_G_ahead 4 = .ok (.aload_n 0, 1) := by decide +kernel
theorem d_G_ahead_5 : decode b_G_ahead 5 = .ok (.getfield 22, 3) := by decide +kernel
theorem d_G_ahead_8 : decode b_G_ahead 8 = .ok (.aload_n 0, 1) := by decide +kernel
theorem d_G_ahead_9 : decode b_G_ahead 9 = .ok (.getfield 9, 3) := by decide +kernel
theorem d_G_ahead_12 : decode b_G_ahead 12 = .ok (.isub, 1) := by decide +kernel
theorem d_G_ahead_13 : decode b_G_ahead 13 = .ok (.invokestatic 25, 3) := by decide +kernel
theorem d_G_ahead_16 : decode b_G_ahead 16 = .ok (.ireturn, 1) := by decide +kernel
theorem d_G_keeps_0 : decode b_G_keeps 0 = .ok (.iload_n 1, 1) := by decide +kernel
theorem d_G_keeps_1 : decode b_G_keeps 1 = .ok (.aload_n 0, 1) := by decide +kernel
theorem d_G_keeps_2 : decode b_G_keeps 2 = .ok (.invokevirtual 31, 3) := by decide +kernel
theorem d_G_keeps_5 : decode b_G_keeps 5 = .ok (.if_icmp .le 15, 3) := by decide +kernel
theorem d_G_keeps_8 : decode b_G_keeps 8 = .ok (.iload_n 1, 1) := by decide +kernel
theorem d_G_keeps_9 : decode b_G_keeps 9 = .ok (.aload_n 0, 1) := by decide +kernel
theorem d_G_keeps_10 : decode b_G_keeps 10 = .ok (.getfield 22, 3) := by decide +kernel
theorem d_G_keeps_13 : decode b_G_keeps 13 = .ok (.if_icmp .gt 7, 3) := by decide +kernel
theorem d_G_keeps_16 : decode b_G_keeps 16 = .ok (.iconst 1, 1) := by decide +kernel
theorem d_G_keeps_17 : decode b_G_keeps 17 = .ok (.goto 4, 3) := by decide +kernel
theorem d_G_keeps_20 : decode b_G_keeps 20 = .ok (.iconst 0, 1) := by decide +kernel
theorem d_G_keeps_21 : decode b_G_keeps 21 = .ok (.ireturn, 1) := by decide +kernel
theorem d_G_numberOf_0 : decode b_G_numberOf 0 = .ok (.aload_n 0, 1) := by decide +kernel
theorem d_G_numberOf_1 : decode b_G_numberOf 1 = .ok (.iload_n 1, 1) := by decide +kernel
theorem d_G_numberOf_2 : decode b_G_numberOf 2 = .ok (.invokevirtual 35, 3) := by decide +kernel
theorem d_G_numberOf_5 : decode b_G_numberOf 5 = .ok (.ifCond .eq 15, 3) := by decide +kernel
theorem d_G_numberOf_8 : decode b_G_numberOf 8 = .ok (.aload_n 0, 1) := by decide +kernel
theorem d_G_numberOf_9 : decode b_G_numberOf 9 = .ok (.getfield 15, 3) := by decide +kernel
theorem d_G_numberOf_12 : decode b_G_numberOf 12 = .ok (.iload_n 1, 1) := by decide +kernel
theorem d_G_numberOf_13 : decode b_G_numberOf 13 = .ok (.bipush 31, 2) := by decide +kernel
theorem d_G_numberOf_15 : decode b_G_numberOf 15 = .ok (.iand, 1) := by decide +kernel
theorem d_G_numberOf_16 : decode b_G_numberOf 16 = .ok (.iaload, 1) := by decide +kernel
theorem d_G_numberOf_17 : decode b_G_numberOf 17 = .ok (.goto 4, 3) := by decide +kernel
theorem d_G_numberOf_20 : decode b_G_numberOf 20 = .ok (.iconst 0, 1) := by decide +kernel
theorem d_G_numberOf_21 : decode b_G_numberOf 21 = .ok (.ireturn, 1) := by decide +kernel
theorem d_G_append_0 : decode b_G_append 0 = .ok (.aload_n 0, 1) := by decide +kernel
theorem d_G_append_1 : decode b_G_append 1 = .ok (.dup, 1) := by decide +kernel
theorem d_G_append_2 : decode b_G_append 2 = .ok (.getfield 22, 3) := by decide +kernel
theorem d_G_append_5 : decode b_G_append 5 = .ok (.iconst 1, 1) := by decide +kernel
theorem d_G_append_6 : decode b_G_append 6 = .ok (.iadd, 1) := by decide +kernel
theorem d_G_append_7 : decode b_G_append 7 = .ok (.putfield 22, 3) := by decide +kernel
theorem d_G_append_10 : decode b_G_append 10 = .ok (.aload_n 0, 1) := by decide +kernel
theorem d_G_append_11 : decode b_G_append 11 = .ok (.bipush 31, 2) := by decide +kernel
theorem d_G_append_13 : decode b_G_append 13 = .ok (.aload_n 0, 1) := by decide +kernel
theorem d_G_append_14 : decode b_G_append 14 = .ok (.getfield 39, 3) := by decide +kernel
theorem d_G_append_17 : decode b_G_append 17 = .ok (.imul, 1) := by decide +kernel
theorem d_G_append_18 : decode b_G_append 18 = .ok (.iload_n 1, 1) := by decide +kernel
theorem d_G_append_19 : decode b_G_append 19 = .ok (.iadd, 1) := by decide +kernel
theorem d_G_append_20 : decode b_G_append 20 = .ok (.putfield 39, 3) := by decide +kernel
theorem d_G_append_23 : decode b_G_append 23 = .ok (.aload_n 0, 1) := by decide +kernel
theorem d_G_append_24 : decode b_G_append 24 = .ok (.getfield 15, 3) := by decide +kernel
theorem d_G_append_27 : decode b_G_append 27 = .ok (.aload_n 0, 1) := by decide +kernel
theorem d_G_append_28 : decode b_G_append 28 = .ok (.getfield 22, 3) := by decide +kernel
theorem d_G_append_31 : decode b_G_append 31 = .ok (.bipush 31, 2) := by decide +kernel
theorem d_G_append_33 : decode b_G_append 33 = .ok (.iand, 1) := by decide +kernel
theorem d_G_append_34 : decode b_G_append 34 = .ok (.iload_n 1, 1) := by decide +kernel
theorem d_G_append_35 : decode b_G_append 35 = .ok (.iastore, 1) := by decide +kernel
theorem d_G_append_36 : decode b_G_append 36 = .ok (.return_, 1) := by decide +kernel
theorem d_G_jump_0 : decode b_G_jump 0 = .ok (.aload_n 0, 1) := by decide +kernel
theorem d_G_jump_1 : decode b_G_jump 1 = .ok (.iload_n 1, 1) := by decide +kernel
theorem d_G_jump_2 : decode b_G_jump 2 = .ok (.putfield 22, 3) := by decide +kernel
theorem d_G_jump_5 : decode b_G_jump 5 = .ok (.aload_n 0, 1) := by decide +kernel
theorem d_G_jump_6 : decode b_G_jump 6 = .ok (.iload_n 2, 1) := by decide +kernel
theorem d_G_jump_7 : decode b_G_jump 7 = .ok (.putfield 39, 3) := by decide +kernel
theorem d_G_jump_10 : decode b_G_jump 10 = .ok (.aload_n 0, 1) := by decide +kernel
theorem d_G_jump_11 : decode b_G_jump 11 = .ok (.iload_n 1, 1) := by decide +kernel
theorem d_G_jump_12 : decode b_G_jump 12 = .ok (.putfield 19, 3) := by decide +kernel
theorem d_G_jump_15 : decode b_G_jump 15 = .ok (.return_, 1) := by decide +kernel
theorem d_M_init_0 : decode b_M_init 0 = .ok (.aload_n 0, 1) := by decide +kernel
theorem d_M_init_1 : decode b_M_init 1 = .ok (.invokespecial 1, 3) := by decide +kernel
theorem d_M_init_4 : decode b_M_init 4 = .ok (.return_, 1) := by decide +kernel
theorem d_R_init_0 : decode b_R_init 0 = .ok (.aload_n 0, 1) := by decide +kernel
theorem d_R_init_1 : decode b_R_init 1 = .ok (.invokespecial 3, 3) := by decide +kernel
theorem d_R_init_4 : decode b_R_init 4 = .ok (.aload_n 0, 1) := by decide +kernel
theorem d_R_init_5 : decode b_R_init 5 = .ok (.iload_n 1, 1) := by decide +kernel
theorem d_R_init_6 : decode b_R_init 6 = .ok (.putfield 9, 3) := by decide +kernel
theorem d_R_init_9 : decode b_R_init 9 = .ok (.aload_n 0, 1) := by decide +kernel
theorem d_R_init_10 : decode b_R_init 10 = .ok (.new 15, 3) := by decide +kernel
theorem d_R_init_13 : decode b_R_init 13 = .ok (.dup, 1) := by decide +kernel
theorem d_R_init_14 : decode b_R_init 14 = .ok (.iload_n 2, 1) := by decide +kernel
theorem d_R_init_15 : decode b_R_init 15 = .ok (.invokespecial 17, 3) := by decide +kernel
theorem d_R_init_18 : decode b_R_init 18 = .ok (.putfield 20, 3) := by decide +kernel
theorem d_R_init_21 : decode b_R_init 21 = .ok (.aload_n 0, 1) := by decide +kernel
theorem d_R_init_22 : decode b_R_init 22 = .ok (.new 24, 3) := by decide +kernel
theorem d_R_init_25 : decode b_R_init 25 = .ok (.dup, 1) := by decide +kernel
theorem d_R_init_26 : decode b_R_init 26 = .ok (.invokespecial 26, 3) := by decide +kernel
theorem d_R_init_29 : decode b_R_init 29 = .ok (.putfield 27, 3) := by decide +kernel
theorem d_R_init_32 : decode b_R_init 32 = .ok (.aload_n 0, 1) := by decide +kernel
theorem d_R_init_33 : decode b_R_init 33 = .ok (.iconst 1, 1) := by decide +kernel
theorem d_R_init_34 : decode b_R_init 34 = .ok (.putfield 31, 3) := by decide +kernel
theorem d_R_init_37 : decode b_R_init 37 = .ok (.return_, 1) := by decide +kernel
theorem d_R_forget_0 : decode b_R_forget 0 = .ok (.aload_n 0, 1) := by decide +kernel
theorem d_R_forget_1 : decode b_R_forget 1 = .ok (.invokevirtual 35, 3) := by decide +kernel
theorem d_R_forget_4 : decode b_R_forget 4 = .ok (.aload_n 0, 1) := by decide +kernel
theorem d_R_forget_5 : decode b_R_forget 5 = .ok (.aload_n 0, 1) := by decide +kernel
theorem d_R_forget_6 : decode b_R_forget 6 = .ok (.getfield 38, 3) := by decide +kernel
theorem d_R_forget_9 : decode b_R_forget 9 = .ok (.putfield 41, 3) := by decide +kernel
theorem d_R_forget_12 : decode b_R_forget 12 = .ok (.aload_n 0, 1) := by decide +kernel
theorem d_R_forget_13 : decode b_R_forget 13 = .ok (.getfield 27, 3) := by decide +kernel
theorem d_R_forget_16 : decode b_R_forget 16 = .ok (.iconst 0, 1) := by decide +kernel
theorem d_R_forget_17 : decode b_R_forget 17 = .ok (.putfield 44, 3) := by decide +kernel
theorem d_R_forget_20 : decode b_R_forget 20 = .ok (.return_, 1) := by decide +kernel
theorem d_R_becomeFollower_0 : decode b_R_becomeFollower 0 = .ok (.aload_n 0, 1) := by decide +kernel
theorem d_R_becomeFollower_1 : decode b_R_becomeFollower 1 = .ok (.iconst 0, 1) := by decide +kernel
theorem d_R_becomeFollower_2 : decode b_R_becomeFollower 2 = .ok (.putfield 47, 3) := by decide +kernel
theorem d_R_becomeFollower_5 : decode b_R_becomeFollower 5 = .ok (.aload_n 0, 1) := by decide +kernel
theorem d_R_becomeFollower_6 : decode b_R_becomeFollower 6 = .ok (.iconst 0, 1) := by decide +kernel
theorem d_R_becomeFollower_7 : decode b_R_becomeFollower 7 = .ok (.putfield 50, 3) := by decide +kernel
theorem d_R_becomeFollower_10 : decode b_R_becomeFollower 10 = .ok (.aload_n 0, 1) := by decide +kernel
theorem d_R_becomeFollower_11 : decode b_R_becomeFollower 11 = .ok (.iconst 0, 1) := by decide +kernel
theorem d_R_becomeFollower_12 : decode b_R_becomeFollower 12 = .ok (.putfield 53, 3) := by decide +kernel
theorem d_R_becomeFollower_15 : decode b_R_becomeFollower 15 = .ok (.aload_n 0, 1) := by decide +kernel
theorem d_R_becomeFollower_16 : decode b_R_becomeFollower 16 = .ok (.iconst 0, 1) := by decide +kernel
theorem d_R_becomeFollower_17 : decode b_R_becomeFollower 17 = .ok (.putfield 56, 3) := by decide +kernel
theorem d_R_becomeFollower_20 : decode b_R_becomeFollower 20 = .ok (.return_, 1) := by decide +kernel
theorem d_R_becomeCandidate_0 : decode b_R_becomeCandidate 0 = .ok (.aload_n 0, 1) := by decide +kernel
theorem d_R_becomeCandidate_1 : decode b_R_becomeCandidate 1 = .ok (.iload_n 1, 1) := by decide +kernel
theorem d_R_becomeCandidate_2 : decode b_R_becomeCandidate 2 = .ok (.putfield 38, 3) := by decide +kernel
theorem d_R_becomeCandidate_5 : decode b_R_becomeCandidate 5 = .ok (.aload_n 0, 1) := by decide +kernel
theorem d_R_becomeCandidate_6 : decode b_R_becomeCandidate 6 = .ok (.iconst 1, 1) := by decide +kernel
theorem d_R_becomeCandidate_7 : decode b_R_becomeCandidate 7 = .ok (.putfield 47, 3) := by decide +kernel
theorem d_R_becomeCandidate_10 : decode b_R_becomeCandidate 10 = .ok (.aload_n 0, 1) := by decide +kernel
theorem d_R_becomeCandidate_11 : decode b_R_becomeCandidate 11 = .ok (.iload_n 1, 1) := by decide +kernel
theorem d_R_becomeCandidate_12 : decode b_R_becomeCandidate 12 = .ok (.putfield 50, 3) := by decide +kernel
theorem d_R_becomeCandidate_15 : decode b_R_becomeCandidate 15 = .ok (.aload_n 0, 1) := by decide +kernel
theorem d_R_becomeCandidate_16 : decode b_R_becomeCandidate 16 = .ok (.iconst 1, 1) := by decide +kernel
theorem d_R_becomeCandidate_17 : decode b_R_becomeCandidate 17 = .ok (.aload_n 0, 1) := by decide +kernel
theorem d_R_becomeCandidate_18 : decode b_R_becomeCandidate 18 = .ok (.getfield 9, 3) := by decide +kernel
theorem d_R_becomeCandidate_21 : decode b_R_becomeCandidate 21 = .ok (.ishl, 1) := by decide +kernel
theorem d_R_becomeCandidate_22 : decode b_R_becomeCandidate 22 = .ok (.putfield 53, 3) := by decide +kernel
theorem d_R_becomeCandidate_25 : decode b_R_becomeCandidate 25 = .ok (.aload_n 0, 1) := by decide +kernel
theorem d_R_becomeCandidate_26 : decode b_R_becomeCandidate 26 = .ok (.aload_n 0, 1) := by decide +kernel
theorem d_R_becomeCandidate_27 : decode b_R_becomeCandidate 27 = .ok (.getfield 59, 3) := by decide +kernel
theorem d_R_becomeCandidate_30 : decode b_R_becomeCandidate 30 = .ok (.putfield 62, 3) := by decide +kernel
theorem d_R_becomeCandidate_33 : decode b_R_becomeCandidate 33 = .ok (.aload_n 0, 1) := by decide +kernel
theorem d_R_becomeCandidate_34 : decode b_R_becomeCandidate 34 = .ok (.aload_n 0, 1) := by decide +kernel
theorem d_R_becomeCandidate_35 : decode b_R_becomeCandidate 35 = .ok (.getfield 65, 3) := by decide +kernel
theorem d_R_becomeCandidate_38 : decode b_R_becomeCandidate 38 = .ok (.putfield 68, 3) := by decide +kernel
theorem d_R_becomeCandidate_41 : decode b_R_becomeCandidate 41 = .ok (.return_, 1) := by decide +kernel
theorem d_R_becomeLeader_0 : decode b_R_becomeLeader 0 = .ok (.aload_n 0, 1) := by decide +kernel
theorem d_R_becomeLeader_1 : decode b_R_becomeLeader 1 = .ok (.iconst 2, 1) := by decide +kernel
theorem d_R_becomeLeader_2 : decode b_R_becomeLeader 2 = .ok (.putfield 47, 3) := by decide +kernel
theorem d_R_becomeLeader_5 : decode b_R_becomeLeader 5 = .ok (.aload_n 0, 1) := by decide +kernel
theorem d_R_becomeLeader_6 : decode b_R_becomeLeader 6 = .ok (.iconst 0, 1) := by decide +kernel
theorem d_R_becomeLeader_7 : decode b_R_becomeLeader 7 = .ok (.putfield 53, 3) := by decide +kernel
theorem d_R_becomeLeader_10 : decode b_R_becomeLeader 10 = .ok (.return_, 1) := by decide +kernel
theorem d_R_isNext_0 : decode b_R_isNext 0 = .ok (.iload_n 1, 1) := by decide +kernel
theorem d_R_isNext_1 : decode b_R_isNext 1 = .ok (.aload_n 0, 1) := by decide +kernel
theorem d_R_isNext_2 : decode b_R_isNext 2 = .ok (.getfield 20, 3) := by decide +kernel
theorem d_R_isNext_5 : decode b_R_isNext 5 = .ok (.getfield 71, 3) := by decide +kernel
