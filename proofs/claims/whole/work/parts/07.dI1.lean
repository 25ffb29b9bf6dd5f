theorem d_R_isNext_8 : decode b_R_isNext 8 = .ok (.iconst 1, 1) := by decide +kernel
theorem d_R_isNext_9 : decode b_R_isNext 9 = .ok (.iadd, 1) := by decide +kernel
theorem d_R_isNext_10 : decode b_R_isNext 10 = .ok (.if_icmp .ne 7, 3) := by decide +kernel
theorem d_R_isNext_13 : decode b_R_isNext 13 = .ok (.iconst 1, 1) := by decide +kernel
theorem d_R_isNext_14 : decode b_R_isNext 14 = .ok (.goto 4, 3) := by decide +kernel
theorem d_R_isNext_17 : decode b_R_isNext 17 = .ok (.iconst 0, 1) := by decide +kernel
theorem d_R_isNext_18 : decode b_R_isNext 18 = .ok (.ireturn, 1) := by decide +kernel
theorem d_R_hasAnswer_0 : decode b_R_hasAnswer 0 = .ok (.aload_n 0, 1) := by decide +kernel
theorem d_R_hasAnswer_1 : decode b_R_hasAnswer 1 = .ok (.getfield 53, 3) := by decide +kernel
theorem d_R_hasAnswer_4 : decode b_R_hasAnswer 4 = .ok (.iconst 1, 1) := by decide +kernel
theorem d_R_hasAnswer_5 : decode b_R_hasAnswer 5 = .ok (.iload_n 1, 1) := by decide +kernel
theorem d_R_hasAnswer_6 : decode b_R_hasAnswer 6 = .ok (.ishl, 1) := by decide +kernel
theorem d_R_hasAnswer_7 : decode b_R_hasAnswer 7 = .ok (.iand, 1) := by decide +kernel
theorem d_R_hasAnswer_8 : decode b_R_hasAnswer 8 = .ok (.ifCond .eq 7, 3) := by decide +kernel
theorem d_R_hasAnswer_11 : decode b_R_hasAnswer 11 = .ok (.iconst 1, 1) := by decide +kernel
theorem d_R_hasAnswer_12 : decode b_R_hasAnswer 12 = .ok (.goto 4, 3) := by decide +kernel
theorem d_R_hasAnswer_15 : decode b_R_hasAnswer 15 = .ok (.iconst 0, 1) := by decide +kernel
theorem d_R_hasAnswer_16 : decode b_R_hasAnswer 16 = .ok (.ireturn, 1) := by decide +kernel
theorem d_R_addAnswer_0 : decode b_R_addAnswer 0 = .ok (.aload_n 0, 1) := by decide +kernel
theorem d_R_addAnswer_1 : decode b_R_addAnswer 1 = .ok (.dup, 1) := by decide +kernel
theorem d_R_addAnswer_2 : decode b_R_addAnswer 2 = .ok (.getfield 53, 3) := by decide +kernel
theorem d_R_addAnswer_5 : decode b_R_addAnswer 5 = .ok (.iconst 1, 1) := by decide +kernel
theorem d_R_addAnswer_6 : decode b_R_addAnswer 6 = .ok (.iload_n 1, 1) := by decide +kernel
theorem d_R_addAnswer_7 : decode b_R_addAnswer 7 = .ok (.ishl, 1) := by decide +kernel
theorem d_R_addAnswer_8 : decode b_R_addAnswer 8 = .ok (.ior, 1) := by decide +kernel
theorem d_R_addAnswer_9 : decode b_R_addAnswer 9 = .ok (.putfield 53, 3) := by decide +kernel
theorem d_R_addAnswer_12 : decode b_R_addAnswer 12 = .ok (.return_, 1) := by decide +kernel
theorem d_R_keepGreatest_0 : decode b_R_keepGreatest 0 = .ok (.iload_n 1, 1) := by decide +kernel
theorem d_R_keepGreatest_1 : decode b_R_keepGreatest 1 = .ok (.aload_n 0, 1) := by decide +kernel
theorem d_R_keepGreatest_2 : decode b_R_keepGreatest 2 = .ok (.getfield 62, 3) := by decide +kernel
theorem d_R_keepGreatest_5 : decode b_R_keepGreatest 5 = .ok (.if_icmp .le 13, 3) := by decide +kernel
theorem d_R_keepGreatest_8 : decode b_R_keepGreatest 8 = .ok (.aload_n 0, 1) := by decide +kernel
theorem d_R_keepGreatest_9 : decode b_R_keepGreatest 9 = .ok (.iload_n 1, 1) := by decide +kernel
theorem d_R_keepGreatest_10 : decode b_R_keepGreatest 10 = .ok (.putfield 62, 3) := by decide +kernel
theorem d_R_keepGreatest_13 : decode b_R_keepGreatest 13 = .ok (.aload_n 0, 1) := by decide +kernel
theorem d_R_keepGreatest_14 : decode b_R_keepGreatest 14 = .ok (.iload_n 2, 1) := by decide +kernel
theorem d_R_keepGreatest_15 : decode b_R_keepGreatest 15 = .ok (.putfield 68, 3) := by decide +kernel
theorem d_R_keepGreatest_18 : decode b_R_keepGreatest 18 = .ok (.return_, 1) := by decide +kernel
theorem d_R_hasAccepted_0 : decode b_R_hasAccepted 0 = .ok (.aload_n 0, 1) := by decide +kernel
theorem d_R_hasAccepted_1 : decode b_R_hasAccepted 1 = .ok (.getfield 59, 3) := by decide +kernel
theorem d_R_hasAccepted_4 : decode b_R_hasAccepted 4 = .ok (.ifCond .eq 7, 3) := by decide +kernel
theorem d_R_hasAccepted_7 : decode b_R_hasAccepted 7 = .ok (.iconst 1, 1) := by decide +kernel
theorem d_R_hasAccepted_8 : decode b_R_hasAccepted 8 = .ok (.goto 4, 3) := by decide +kernel
theorem d_R_hasAccepted_11 : decode b_R_hasAccepted 11 = .ok (.iconst 0, 1) := by decide +kernel
theorem d_R_hasAccepted_12 : decode b_R_hasAccepted 12 = .ok (.ireturn, 1) := by decide +kernel
theorem d_R_accept_0 : decode b_R_accept 0 = .ok (.aload_n 0, 1) := by decide +kernel
theorem d_R_accept_1 : decode b_R_accept 1 = .ok (.iload_n 1, 1) := by decide +kernel
theorem d_R_accept_2 : decode b_R_accept 2 = .ok (.putfield 59, 3) := by decide +kernel
theorem d_R_accept_5 : decode b_R_accept 5 = .ok (.aload_n 0, 1) := by decide +kernel
theorem d_R_accept_6 : decode b_R_accept 6 = .ok (.iload_n 2, 1) := by decide +kernel
theorem d_R_accept_7 : decode b_R_accept 7 = .ok (.putfield 65, 3) := by decide +kernel
theorem d_R_accept_10 : decode b_R_accept 10 = .ok (.return_, 1) := by decide +kernel
theorem d_R_dropAccepted_0 : decode b_R_dropAccepted 0 = .ok (.aload_n 0, 1) := by decide +kernel
theorem d_R_dropAccepted_1 : decode b_R_dropAccepted 1 = .ok (.iconst 0, 1) := by decide +kernel
theorem d_R_dropAccepted_2 : decode b_R_dropAccepted 2 = .ok (.putfield 59, 3) := by decide +kernel
theorem d_R_dropAccepted_5 : decode b_R_dropAccepted 5 = .ok (.aload_n 0, 1) := by decide +kernel
theorem d_R_dropAccepted_6 : decode b_R_dropAccepted 6 = .ok (.iconst 0, 1) := by decide +kernel
theorem d_R_dropAccepted_7 : decode b_R_dropAccepted 7 = .ok (.putfield 65, 3) := by decide +kernel
theorem d_R_dropAccepted_10 : decode b_R_dropAccepted 10 = .ok (.return_, 1) := by decide +kernel
theorem d_R_proposeAndAccept_0 : decode b_R_proposeAndAccept 0 = .ok (.aload_n 0, 1) := by decide +kernel
theorem d_R_proposeAndAccept_1 : decode b_R_proposeAndAccept 1 = .ok (.iload_n 1, 1) := by decide +kernel
theorem d_R_proposeAndAccept_2 : decode b_R_proposeAndAccept 2 = .ok (.putfield 56, 3) := by decide +kernel
theorem d_R_proposeAndAccept_5 : decode b_R_proposeAndAccept 5 = .ok (.aload_n 0, 1) := by decide +kernel
theorem d_R_proposeAndAccept_6 : decode b_R_proposeAndAccept 6 = .ok (.iconst 1, 1) := by decide +kernel
theorem d_R_proposeAndAccept_7 : decode b_R_proposeAndAccept 7 = .ok (.aload_n 0, 1) := by decide +kernel
theorem d_R_proposeAndAccept_8 : decode b_R_proposeAndAccept 8 = .ok (.getfield 9, 3) := by decide +kernel
theorem d_R_proposeAndAccept_11 : decode b_R_proposeAndAccept 11 = .ok (.ishl, 1) := by decide +kernel
theorem d_R_proposeAndAccept_12 : decode b_R_proposeAndAccept 12 = .ok (.putfield 53, 3) := by decide +kernel
theorem d_R_proposeAndAccept_15 : decode b_R_proposeAndAccept 15 = .ok (.aload_n 0, 1) := by decide +kernel
theorem d_R_proposeAndAccept_16 : decode b_R_proposeAndAccept 16 = .ok (.aload_n 0, 1) := by decide +kernel
theorem d_R_proposeAndAccept_17 : decode b_R_proposeAndAccept 17 = .ok (.getfield 50, 3) := by decide +kernel
theorem d_R_proposeAndAccept_20 : decode b_R_proposeAndAccept 20 = .ok (.iload_n 1, 1) := by decide +kernel
theorem d_R_proposeAndAccept_21 : decode b_R_proposeAndAccept 21 = .ok (.invokevirtual 74, 3) := by decide +kernel
theorem d_R_proposeAndAccept_24 : decode b_R_proposeAndAccept 24 = .ok (.return_, 1) := by decide +kernel
theorem d_R_learn_0 : decode b_R_learn 0 = .ok (.aload_n 0, 1) := by decide +kernel
theorem d_R_learn_1 : decode b_R_learn 1 = .ok (.getfield 20, 3) := by decide +kernel
theorem d_R_learn_4 : decode b_R_learn 4 = .ok (.iload_n 1, 1) := by decide +kernel
theorem d_R_learn_5 : decode b_R_learn 5 = .ok (.invokevirtual 78, 3) := by decide +kernel
theorem d_R_learn_8 : decode b_R_learn 8 = .ok (.aload_n 0, 1) := by decide +kernel
theorem d_R_learn_9 : decode b_R_learn 9 = .ok (.invokevirtual 81, 3) := by decide +kernel
theorem d_R_learn_12 : decode b_R_learn 12 = .ok (.aload_n 0, 1) := by decide +kernel
theorem d_R_learn_13 : decode b_R_learn 13 = .ok (.getfield 47, 3) := by decide +kernel
theorem d_R_learn_16 : decode b_R_learn 16 = .ok (.iconst 1, 1) := by decide +kernel
theorem d_R_learn_17 : decode b_R_learn 17 = .ok (.if_icmp .ne 7, 3) := by decide +kernel
theorem d_R_learn_20 : decode b_R_learn 20 = .ok (.aload_n 0, 1) := by decide +kernel
theorem d_R_learn_21 : decode b_R_learn 21 = .ok (.invokevirtual 35, 3) := by decide +kernel
theorem d_R_learn_24 : decode b_R_learn 24 = .ok (.aload_n 0, 1) := by decide +kernel
theorem d_R_learn_25 : decode b_R_learn 25 = .ok (.iconst 0, 1) := by decide +kernel
theorem d_R_learn_26 : decode b_R_learn 26 = .ok (.putfield 56, 3) := by decide +kernel
theorem d_R_learn_29 : decode b_R_learn 29 = .ok (.aload_n 0, 1) := by decide +kernel
theorem d_R_learn_30 : decode b_R_learn 30 = .ok (.iconst 0, 1) := by decide +kernel
theorem d_R_learn_31 : decode b_R_learn 31 = .ok (.putfield 53, 3) := by decide +kernel
theorem d_R_learn_34 : decode b_R_learn 34 = .ok (.aload_n 0, 1) := by decide +kernel
theorem d_R_learn_35 : decode b_R_learn 35 = .ok (.getfield 27, 3) := by decide +kernel
theorem d_R_learn_38 : decode b_R_learn 38 = .ok (.iload_n 1, 1) := by decide +kernel
theorem d_R_learn_39 : decode b_R_learn 39 = .ok (.invokevirtual 84, 3) := by decide +kernel
theorem d_R_learn_42 : decode b_R_learn 42 = .ok (.return_, 1) := by decide +kernel
theorem d_R_passing_0 : decode b_R_passing 0 = .ok (.iload_n 1, 1) := by decide +kernel
theorem d_R_passing_1 : decode b_R_passing 1 = .ok (.tableswitch 72 7 12 #[39, 44, 49, 54, 59, 67], 39) := by decide +kernel
theorem d_R_passing_40 : decode b_R_passing 40 = .ok (.aload_n 0, 1) := by decide +kernel
theorem d_R_passing_41 : decode b_R_passing 41 = .ok (.getfield 47, 3) := by decide +kernel
theorem d_R_passing_44 : decode b_R_passing 44 = .ok (.ireturn, 1) := by decide +kernel
theorem d_R_passing_45 : decode b_R_passing 45 = .ok (.aload_n 0, 1) := by decide +kernel
theorem d_R_passing_46 : decode b_R_passing 46 = .ok (.getfield 50, 3) := by decide +kernel
theorem d_R_passing_49 : decode b_R_passing 49 = .ok (.ireturn, 1) := by decide +kernel
theorem d_R_passing_50 : decode b_R_passing 50 = .ok (.aload_n 0, 1) := by decide +kernel
theorem d_R_passing_51 : decode b_R_passing 51 = .ok (.getfield 53, 3) := by decide +kernel
theorem d_R_passing_54 : decode b_R_passing 54 = .ok (.ireturn, 1) := by decide +kernel
theorem d_R_passing_55 : decode b_R_passing 55 = .ok (.aload_n 0, 1) := by decide +kernel
theorem d_R_passing_56 : decode b_R_passing 56 = .ok (.getfield 41, 3) := by decide +kernel
theorem d_R_passing_59 : decode b_R_passing 59 = .ok (.ireturn, 1) := by decide +kernel
theorem d_R_passing_60 : decode b_R_passing 60 = .ok (.aload_n 0, 1) := by decide +kernel
theorem d_R_passing_61 : decode b_R_passing 61 = .ok (.getfield 27, 3) := by decide +kernel
theorem d_R_passing_64 : decode b_R_passing 64 = .ok (.getfield 44, 3) := by decide +kernel
theorem d_R_passing_67 : decode b_R_passing 67 = .ok (.ireturn, 1) := by decide +kernel
theorem d_R_passing_68 : decode b_R_passing 68 = .ok (.aload_n 0, 1) := by decide +kernel
theorem d_R_passing_69 : decode b_R_passing 69 = .ok (.getfield 56, 3) := by decide +kernel
theorem d_R_passing_72 : decode b_R_passing 72 = .ok (.ireturn, 1) := by decide +kernel
theorem d_R_passing_73 : decode b_R_passing 73 = .ok (.iconst (-1), 1) := by decide +kernel
theorem d_R_passing_74 : decode b_R_passing 74 = .ok (.ireturn, 1) := by decide +kernel
theorem d_J_bitCount_0 : decode b_J_bitCount 0 = .ok (.iload_n 0, 1) := by decide +kernel
theorem d_J_bitCount_1 : decode b_J_bitCount 1 = .ok (.iload_n 0, 1) := by decide +kernel
theorem d_J_bitCount_2 : decode b_J_bitCount 2 = .ok (.iconst 1, 1) := by decide +kernel
theorem d_J_bitCount_3 : decode b_J_bitCount 3 = .ok (.iushr, 1) := by decide +kernel
theorem d_J_bitCount_4 : decode b_J_bitCount 4 = .ok (.ldc_w 265, 3) := by decide +kernel
theorem d_J_bitCount_7 : decode b_J_bitCount 7 = .ok (.iand, 1) := by decide +kernel
theorem d_J_bitCount_8 : decode b_J_bitCount 8 = .ok (.isub, 1) := by decide +kernel
theorem d_J_bitCount_9 : decode b_J_bitCount 9 = .ok (.istore_n 0, 1) := by decide +kernel
theorem d_J_bitCount_10 : decode b_J_bitCount 10 = .ok (.iload_n 0, 1) := by decide +kernel
theorem d_J_bitCount_11 : decode b_J_bitCount 11 = .ok (.ldc_w 266, 3) := by decide +kernel
theorem d_J_bitCount_14 : decode b_J_bitCount 14 = .ok (.iand, 1) := by decide +kernel
theorem d_J_bitCount_15 : decode b_J_bitCount 15 = .ok (.iload_n 0, 1) := by decide +kernel
theorem d_J_bitCount_16 : decode b_J_bitCount 16 = .ok (.iconst 2, 1) := by decide +kernel
theorem d_J_bitCount_17 : decode b_J_bitCount 17 = .ok (.iushr, 1) := by decide +kernel
theorem d_J_bitCount_18 : decode b_J_bitCount 18 = .ok (.ldc_w 266, 3) := by decide +kernel
theorem d_J_bitCount_21 : decode b_J_bitCount 21 = .ok (.iand, 1) := by decide +kernel
theorem d_J_bitCount_22 : decode b_J_bitCount 22 = .ok (.iadd, 1) := by decide +kernel
theorem d_J_bitCount_23 : decode b_J_bitCount 23 = .ok (.istore_n 0, 1) := by decide +kernel
theorem d_J_bitCount_24 : decode b_J_bitCount 24 = .ok (.iload_n 0, 1) := by decide +kernel
theorem d_J_bitCount_25 : decode b_J_bitCount 25 = .ok (.iload_n 0, 1) := by decide +kernel
theorem d_J_bitCount_26 : decode b_J_bitCount 26 = .ok (.iconst 4, 1) := by decide +kernel
theorem d_J_bitCount_27 : decode b_J_bitCount 27 = .ok (.iushr, 1) := by decide +kernel
theorem d_J_bitCount_28 : decode b_J_bitCount 28 = .ok (.iadd, 1) := by decide +kernel
theorem d_J_bitCount_29 : decode b_J_bitCount 29 = .ok (.ldc_w 267, 3) := by decide +kernel
theorem d_J_bitCount_32 : decode b_J_bitCount 32 = .ok (.iand, 1) := by decide +kernel
theorem d_J_bitCount_33 : decode b_J_bitCount 33 = .ok (.istore_n 0, 1) := by decide +kernel
theorem d_J_bitCount_34 : decode b_J_bitCount 34 = .ok (.iload_n 0, 1) := by decide +kernel
theorem d_J_bitCount_35 : decode b_J_bitCount 35 = .ok (.iload_n 0, 1) := by decide +kernel
theorem d_J_bitCount_36 : decode b_J_bitCount 36 = .ok (.bipush 8, 2) := by decide +kernel
theorem d_J_bitCount_38 : decode b_J_bitCount 38 = .ok (.iushr, 1) := by decide +kernel
theorem d_J_bitCount_39 : decode b_J_bitCount 39 = .ok (.iadd, 1) := by decide +kernel
theorem d_J_bitCount_40 : decode b_J_bitCount 40 = .ok (.istore_n 0, 1) := by decide +kernel
theorem d_J_bitCount_41 : decode b_J_bitCount 41 = .ok (.iload_n 0, 1) := by decide +kernel
theorem d_J_bitCount_42 : decode b_J_bitCount 42 = .ok (.iload_n 0, 1) := by decide +kernel
theorem d_J_bitCount_43 : decode b_J_bitCount 43 = .ok (.bipush 16, 2) := by decide +kernel
theorem d_J_bitCount_45 : decode b_J_bitCount 45 = .ok (.iushr, 1) := by decide +kernel
theorem d_J_bitCount_46 : decode b_J_bitCount 46 = .ok (.iadd, 1) := by decide +kernel
theorem d_J_bitCount_47 : decode b_J_bitCount 47 = .ok (.istore_n 0, 1) := by decide +kernel
theorem d_J_bitCount_48 : decode b_J_bitCount 48 = .ok (.iload_n 0, 1) := by decide +kernel
theorem d_J_bitCount_49 : decode b_J_bitCount 49 = .ok (.bipush 63, 2) := by decide +kernel
theorem d_J_bitCount_51 : decode b_J_bitCount 51 = .ok (.iand, 1) := by decide +kernel
theorem d_J_bitCount_52 : decode b_J_bitCount 52 = .ok (.ireturn, 1) := by decide +kernel
