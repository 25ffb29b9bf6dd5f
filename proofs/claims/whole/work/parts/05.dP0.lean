theorem d_P_init_0 : decode b_P_init 0 = .ok (.aload_n 0, 1) := by decide +kernel
theorem d_P_init_1 : decode b_P_init 1 = .ok (.invokespecial 1, 3) := by decide +kernel
theorem d_P_init_4 : decode b_P_init 4 = .ok (.aload_n 0, 1) := by decide +kernel
theorem d_P_init_5 : decode b_P_init 5 = .ok (.iconst 3, 1) := by decide +kernel
theorem d_P_init_6 : decode b_P_init 6 = .ok (.iconst 5, 1) := by decide +kernel
theorem d_P_init_7 : decode b_P_init 7 = .ok (.iload_n 1, 1) := by decide +kernel
theorem d_P_init_8 : decode b_P_init 8 = .ok (.invokestatic 9, 3) := by decide +kernel
theorem d_P_init_11 : decode b_P_init 11 = .ok (.invokestatic 15, 3) := by decide +kernel
theorem d_P_init_14 : decode b_P_init 14 = .ok (.putfield 18, 3) := by decide +kernel
theorem d_P_init_17 : decode b_P_init 17 = .ok (.aload_n 0, 1) := by decide +kernel
theorem d_P_init_18 : decode b_P_init 18 = .ok (.iconst 1, 1) := by decide +kernel
theorem d_P_init_19 : decode b_P_init 19 = .ok (.bipush 32, 2) := by decide +kernel
theorem d_P_init_21 : decode b_P_init 21 = .ok (.iload_n 2, 1) := by decide +kernel
theorem d_P_init_22 : decode b_P_init 22 = .ok (.invokestatic 9, 3) := by decide +kernel
theorem d_P_init_25 : decode b_P_init 25 = .ok (.invokestatic 15, 3) := by decide +kernel
theorem d_P_init_28 : decode b_P_init 28 = .ok (.putfield 22, 3) := by decide +kernel
theorem d_P_init_31 : decode b_P_init 31 = .ok (.aload_n 0, 1) := by decide +kernel
theorem d_P_init_32 : decode b_P_init 32 = .ok (.aload_n 0, 1) := by decide +kernel
theorem d_P_init_33 : decode b_P_init 33 = .ok (.getfield 18, 3) := by decide +kernel
theorem d_P_init_36 : decode b_P_init 36 = .ok (.anewarray 25, 3) := by decide +kernel
theorem d_P_init_39 : decode b_P_init 39 = .ok (.putfield 27, 3) := by decide +kernel
theorem d_P_init_42 : decode b_P_init 42 = .ok (.iconst 0, 1) := by decide +kernel
theorem d_P_init_43 : decode b_P_init 43 = .ok (.istore_n 3, 1) := by decide +kernel
theorem d_P_init_44 : decode b_P_init 44 = .ok (.iload_n 3, 1) := by decide +kernel
theorem d_P_init_45 : decode b_P_init 45 = .ok (.aload_n 0, 1) := by decide +kernel
theorem d_P_init_46 : decode b_P_init 46 = .ok (.getfield 18, 3) := by decide +kernel
theorem d_P_init_49 : decode b_P_init 49 = .ok (.if_icmp .ge 27, 3) := by decide +kernel
theorem d_P_init_52 : decode b_P_init 52 = .ok (.aload_n 0, 1) := by decide +kernel
theorem d_P_init_53 : decode b_P_init 53 = .ok (.getfield 27, 3) := by decide +kernel
theorem d_P_init_56 : decode b_P_init 56 = .ok (.iload_n 3, 1) := by decide +kernel
theorem d_P_init_57 : decode b_P_init 57 = .ok (.new 25, 3) := by decide +kernel
theorem d_P_init_60 : decode b_P_init 60 = .ok (.dup, 1) := by decide +kernel
theorem d_P_init_61 : decode b_P_init 61 = .ok (.iload_n 3, 1) := by decide +kernel
theorem d_P_init_62 : decode b_P_init 62 = .ok (.aload_n 0, 1) := by decide +kernel
theorem d_P_init_63 : decode b_P_init 63 = .ok (.getfield 22, 3) := by decide +kernel
theorem d_P_init_66 : decode b_P_init 66 = .ok (.invokespecial 31, 3) := by decide +kernel
theorem d_P_init_69 : decode b_P_init 69 = .ok (.aastore, 1) := by decide +kernel
theorem d_P_init_70 : decode b_P_init 70 = .ok (.iinc 3 1, 3) := by decide +kernel
theorem d_P_init_73 : decode b_P_init 73 = .ok (.goto (-29), 3) := by decide +kernel
theorem d_P_init_76 : decode b_P_init 76 = .ok (.aload_n 0, 1) := by decide +kernel
theorem d_P_init_77 : decode b_P_init 77 = .ok (.new 34, 3) := by decide +kernel
theorem d_P_init_80 : decode b_P_init 80 = .ok (.dup, 1) := by decide +kernel
theorem d_P_init_81 : decode b_P_init 81 = .ok (.invokespecial 36, 3) := by decide +kernel
theorem d_P_init_84 : decode b_P_init 84 = .ok (.putfield 37, 3) := by decide +kernel
theorem d_P_init_87 : decode b_P_init 87 = .ok (.aload_n 0, 1) := by decide +kernel
theorem d_P_init_88 : decode b_P_init 88 = .ok (.new 41, 3) := by decide +kernel
theorem d_P_init_91 : decode b_P_init 91 = .ok (.dup, 1) := by decide +kernel
theorem d_P_init_92 : decode b_P_init 92 = .ok (.invokespecial 43, 3) := by decide +kernel
theorem d_P_init_95 : decode b_P_init 95 = .ok (.putfield 44, 3) := by decide +kernel
theorem d_P_init_98 : decode b_P_init 98 = .ok (.return_, 1) := by decide +kernel
theorem d_P_request_0 : decode b_P_request 0 = .ok (.aload_n 0, 1) := by decide +kernel
theorem d_P_request_1 : decode b_P_request 1 = .ok (.iload_n 1, 1) := by decide +kernel
theorem d_P_request_2 : decode b_P_request 2 = .ok (.invokevirtual 48, 3) := by decide +kernel
theorem d_P_request_5 : decode b_P_request 5 = .ok (.astore_n 3, 1) := by decide +kernel
theorem d_P_request_6 : decode b_P_request 6 = .ok (.aload_n 3, 1) := by decide +kernel
theorem d_P_request_7 : decode b_P_request 7 = .ok (.ifnull 15, 3) := by decide +kernel
theorem d_P_request_10 : decode b_P_request 10 = .ok (.aload_n 3, 1) := by decide +kernel
theorem d_P_request_11 : decode b_P_request 11 = .ok (.getfield 52, 3) := by decide +kernel
theorem d_P_request_14 : decode b_P_request 14 = .ok (.ifCond .eq 8, 3) := by decide +kernel
theorem d_P_request_17 : decode b_P_request 17 = .ok (.iload_n 2, 1) := by decide +kernel
theorem d_P_request_18 : decode b_P_request 18 = .ok (.iconst 1, 1) := by decide +kernel
theorem d_P_request_19 : decode b_P_request 19 = .ok (.if_icmp .ge 5, 3) := by decide +kernel
theorem d_P_request_22 : decode b_P_request 22 = .ok (.iconst 0, 1) := by decide +kernel
theorem d_P_request_23 : decode b_P_request 23 = .ok (.ireturn, 1) := by decide +kernel
theorem d_P_request_24 : decode b_P_request 24 = .ok (.aload_n 3, 1) := by decide +kernel
theorem d_P_request_25 : decode b_P_request 25 = .ok (.getfield 56, 3) := by decide +kernel
theorem d_P_request_28 : decode b_P_request 28 = .ok (.iload_n 2, 1) := by decide +kernel
theorem d_P_request_29 : decode b_P_request 29 = .ok (.invokevirtual 60, 3) := by decide +kernel
theorem d_P_request_32 : decode b_P_request 32 = .ok (.ireturn, 1) := by decide +kernel
theorem d_P_tick_0 : decode b_P_tick 0 = .ok (.aload_n 0, 1) := by decide +kernel
theorem d_P_tick_1 : decode b_P_tick 1 = .ok (.iload_n 1, 1) := by decide +kernel
theorem d_P_tick_2 : decode b_P_tick 2 = .ok (.invokevirtual 48, 3) := by decide +kernel
theorem d_P_tick_5 : decode b_P_tick 5 = .ok (.astore_n 2, 1) := by decide +kernel
theorem d_P_tick_6 : decode b_P_tick 6 = .ok (.aload_n 2, 1) := by decide +kernel
theorem d_P_tick_7 : decode b_P_tick 7 = .ok (.ifnull 10, 3) := by decide +kernel
theorem d_P_tick_10 : decode b_P_tick 10 = .ok (.aload_n 2, 1) := by decide +kernel
theorem d_P_tick_11 : decode b_P_tick 11 = .ok (.getfield 52, 3) := by decide +kernel
theorem d_P_tick_14 : decode b_P_tick 14 = .ok (.ifCond .ne 5, 3) := by decide +kernel
theorem d_P_tick_17 : decode b_P_tick 17 = .ok (.iconst (-1), 1) := by decide +kernel
theorem d_P_tick_18 : decode b_P_tick 18 = .ok (.ireturn, 1) := by decide +kernel
theorem d_P_tick_19 : decode b_P_tick 19 = .ok (.aload_n 2, 1) := by decide +kernel
theorem d_P_tick_20 : decode b_P_tick 20 = .ok (.getfield 66, 3) := by decide +kernel
theorem d_P_tick_23 : decode b_P_tick 23 = .ok (.iconst 2, 1) := by decide +kernel
theorem d_P_tick_24 : decode b_P_tick 24 = .ok (.if_icmp .ne 11, 3) := by decide +kernel
theorem d_P_tick_27 : decode b_P_tick 27 = .ok (.aload_n 0, 1) := by decide +kernel
theorem d_P_tick_28 : decode b_P_tick 28 = .ok (.aload_n 2, 1) := by decide +kernel
theorem d_P_tick_29 : decode b_P_tick 29 = .ok (.invokevirtual 69, 3) := by decide +kernel
theorem d_P_tick_32 : decode b_P_tick 32 = .ok (.goto 65, 3) := by decide +kernel
theorem d_P_tick_35 : decode b_P_tick 35 = .ok (.aload_n 2, 1) := by decide +kernel
theorem d_P_tick_36 : decode b_P_tick 36 = .ok (.getfield 66, 3) := by decide +kernel
theorem d_P_tick_39 : decode b_P_tick 39 = .ok (.iconst 1, 1) := by decide +kernel
theorem d_P_tick_40 : decode b_P_tick 40 = .ok (.if_icmp .ne 11, 3) := by decide +kernel
theorem d_P_tick_43 : decode b_P_tick 43 = .ok (.aload_n 0, 1) := by decide +kernel
theorem d_P_tick_44 : decode b_P_tick 44 = .ok (.aload_n 2, 1) := by decide +kernel
theorem d_P_tick_45 : decode b_P_tick 45 = .ok (.invokevirtual 73, 3) := by decide +kernel
theorem d_P_tick_48 : decode b_P_tick 48 = .ok (.goto 49, 3) := by decide +kernel
theorem d_P_tick_51 : decode b_P_tick 51 = .ok (.aload_n 2, 1) := by decide +kernel
theorem d_P_tick_52 : decode b_P_tick 52 = .ok (.getfield 56, 3) := by decide +kernel
theorem d_P_tick_55 : decode b_P_tick 55 = .ok (.getfield 76, 3) := by decide +kernel
theorem d_P_tick_58 : decode b_P_tick 58 = .ok (.ifCond .le 11, 3) := by decide +kernel
theorem d_P_tick_61 : decode b_P_tick 61 = .ok (.aload_n 0, 1) := by decide +kernel
theorem d_P_tick_62 : decode b_P_tick 62 = .ok (.aload_n 2, 1) := by decide +kernel
theorem d_P_tick_63 : decode b_P_tick 63 = .ok (.invokevirtual 79, 3) := by decide +kernel
theorem d_P_tick_66 : decode b_P_tick 66 = .ok (.goto 31, 3) := by decide +kernel
theorem d_P_tick_69 : decode b_P_tick 69 = .ok (.aload_n 0, 1) := by decide +kernel
theorem d_P_tick_70 : decode b_P_tick 70 = .ok (.aload_n 2, 1) := by decide +kernel
theorem d_P_tick_71 : decode b_P_tick 71 = .ok (.aload_n 2, 1) := by decide +kernel
theorem d_P_tick_72 : decode b_P_tick 72 = .ok (.getfield 82, 3) := by decide +kernel
theorem d_P_tick_75 : decode b_P_tick 75 = .ok (.iconst 1, 1) := by decide +kernel
theorem d_P_tick_76 : decode b_P_tick 76 = .ok (.iadd, 1) := by decide +kernel
theorem d_P_tick_77 : decode b_P_tick 77 = .ok (.aload_n 0, 1) := by decide +kernel
theorem d_P_tick_78 : decode b_P_tick 78 = .ok (.getfield 18, 3) := by decide +kernel
theorem d_P_tick_81 : decode b_P_tick 81 = .ok (.if_icmp .ge 12, 3) := by decide +kernel
theorem d_P_tick_84 : decode b_P_tick 84 = .ok (.aload_n 2, 1) := by decide +kernel
theorem d_P_tick_85 : decode b_P_tick 85 = .ok (.getfield 82, 3) := by decide +kernel
theorem d_P_tick_88 : decode b_P_tick 88 = .ok (.iconst 1, 1) := by decide +kernel
theorem d_P_tick_89 : decode b_P_tick 89 = .ok (.iadd, 1) := by decide +kernel
theorem d_P_tick_90 : decode b_P_tick 90 = .ok (.goto 4, 3) := by decide +kernel
theorem d_P_tick_93 : decode b_P_tick 93 = .ok (.iconst 0, 1) := by decide +kernel
theorem d_P_tick_94 : decode b_P_tick 94 = .ok (.invokevirtual 85, 3) := by decide +kernel
theorem d_P_tick_97 : decode b_P_tick 97 = .ok (.aload_n 0, 1) := by decide +kernel
theorem d_P_tick_98 : decode b_P_tick 98 = .ok (.getfield 37, 3) := by decide +kernel
theorem d_P_tick_101 : decode b_P_tick 101 = .ok (.getfield 89, 3) := by decide +kernel
theorem d_P_tick_104 : decode b_P_tick 104 = .ok (.ireturn, 1) := by decide +kernel
theorem d_P_deliver_0 : decode b_P_deliver 0 = .ok (.aload_n 0, 1) := by decide +kernel
theorem d_P_deliver_1 : decode b_P_deliver 1 = .ok (.getfield 37, 3) := by decide +kernel
theorem d_P_deliver_4 : decode b_P_deliver 4 = .ok (.iload_n 1, 1) := by decide +kernel
theorem d_P_deliver_5 : decode b_P_deliver 5 = .ok (.invokevirtual 90, 3) := by decide +kernel
theorem d_P_deliver_8 : decode b_P_deliver 8 = .ok (.ifCond .ne 5, 3) := by decide +kernel
theorem d_P_deliver_11 : decode b_P_deliver 11 = .ok (.iconst (-1), 1) := by decide +kernel
theorem d_P_deliver_12 : decode b_P_deliver 12 = .ok (.ireturn, 1) := by decide +kernel
theorem d_P_deliver_13 : decode b_P_deliver 13 = .ok (.aload_n 0, 1) := by decide +kernel
theorem d_P_deliver_14 : decode b_P_deliver 14 = .ok (.getfield 37, 3) := by decide +kernel
theorem d_P_deliver_17 : decode b_P_deliver 17 = .ok (.iload_n 1, 1) := by decide +kernel
theorem d_P_deliver_18 : decode b_P_deliver 18 = .ok (.aload_n 0, 1) := by decide +kernel
theorem d_P_deliver_19 : decode b_P_deliver 19 = .ok (.getfield 44, 3) := by decide +kernel
theorem d_P_deliver_22 : decode b_P_deliver 22 = .ok (.invokevirtual 93, 3) := by decide +kernel
theorem d_P_deliver_25 : decode b_P_deliver 25 = .ok (.aload_n 0, 1) := by decide +kernel
theorem d_P_deliver_26 : decode b_P_deliver 26 = .ok (.getfield 37, 3) := by decide +kernel
theorem d_P_deliver_29 : decode b_P_deliver 29 = .ok (.iload_n 1, 1) := by decide +kernel
theorem d_P_deliver_30 : decode b_P_deliver 30 = .ok (.invokevirtual 97, 3) := by decide +kernel
theorem d_P_deliver_33 : decode b_P_deliver 33 = .ok (.aload_n 0, 1) := by decide +kernel
theorem d_P_deliver_34 : decode b_P_deliver 34 = .ok (.aload_n 0, 1) := by decide +kernel
theorem d_P_deliver_35 : decode b_P_deliver 35 = .ok (.getfield 44, 3) := by decide +kernel
theorem d_P_deliver_38 : decode b_P_deliver 38 = .ok (.getfield 101, 3) := by decide +kernel
theorem d_P_deliver_41 : decode b_P_deliver 41 = .ok (.invokevirtual 48, 3) := by decide +kernel
theorem d_P_deliver_44 : decode b_P_deliver 44 = .ok (.astore_n 2, 1) := by decide +kernel
theorem d_P_deliver_45 : decode b_P_deliver 45 = .ok (.aload_n 2, 1) := by decide +kernel
theorem d_P_deliver_46 : decode b_P_deliver 46 = .ok (.ifnull 19, 3) := by decide +kernel
theorem d_P_deliver_49 : decode b_P_deliver 49 = .ok (.aload_n 2, 1) := by decide +kernel
theorem d_P_deliver_50 : decode b_P_deliver 50 = .ok (.getfield 52, 3) := by decide +kernel
theorem d_P_deliver_53 : decode b_P_deliver 53 = .ok (.ifCond .eq 12, 3) := by decide +kernel
theorem d_P_deliver_56 : decode b_P_deliver 56 = .ok (.aload_n 0, 1) := by decide +kernel
theorem d_P_deliver_57 : decode b_P_deliver 57 = .ok (.aload_n 2, 1) := by decide +kernel
theorem d_P_deliver_58 : decode b_P_deliver 58 = .ok (.aload_n 0, 1) := by decide +kernel
theorem d_P_deliver_59 : decode b_P_deliver 59 = .ok (.getfield 44, 3) := by decide +kernel
theorem d_P_deliver_62 : decode b_P_deliver 62 = .ok (.invokevirtual 104, 3) := by decide +kernel
theorem d_P_deliver_65 : decode b_P_deliver 65 = .ok (.aload_n 0, 1) := by decide +kernel
theorem d_P_deliver_66 : decode b_P_deliver 66 = .ok (.getfield 44, 3) := by decide +kernel
theorem d_P_deliver_69 : decode b_P_deliver 69 = .ok (.getfield 108, 3) := by decide +kernel
theorem d_P_deliver_72 : decode b_P_deliver 72 = .ok (.ireturn, 1) := by decide +kernel
theorem d_P_lose_0 : decode b_P_lose 0 = .ok (.aload_n 0, 1) := by decide +kernel
theorem d_P_lose_1 : decode b_P_lose 1 = .ok (.getfield 37, 3) := by decide +kernel
theorem d_P_lose_4 : decode b_P_lose 4 = .ok (.iload_n 1, 1) := by decide +kernel
theorem d_P_lose_5 : decode b_P_lose 5 = .ok (.invokevirtual 90, 3) := by decide +kernel
theorem d_P_lose_8 : decode b_P_lose 8 = .ok (.ifCond .ne 5, 3) := by decide +kernel
theorem d_P_lose_11 : decode b_P_lose 11 = .ok (.iconst 0, 1) := by decide +kernel
theorem d_P_lose_12 : decode b_P_lose 12 = .ok (.ireturn, 1) := by decide +kernel
theorem d_P_lose_13 : decode b_P_lose 13 = .ok (.aload_n 0, 1) := by decide +kernel
theorem d_P_lose_14 : decode b_P_lose 14 = .ok (.getfield 37, 3) := by decide +kernel
theorem d_P_lose_17 : decode b_P_lose 17 = .ok (.iload_n 1, 1) := by decide +kernel
theorem d_P_lose_18 : decode b_P_lose 18 = .ok (.invokevirtual 97, 3) := by decide +kernel
theorem d_P_lose_21 : decode b_P_lose 21 = .ok (.iconst 1, 1) := by decide +kernel
theorem d_P_lose_22 : decode b_P_lose 22 = .ok (.ireturn, 1) := by decide +kernel
theorem d_P_twice_0 : decode b_P_twice 0 = .ok (.aload_n 0, 1) := by decide +kernel
theorem d_P_twice_1 : decode b_P_twice 1 = .ok (.getfield 37, 3) := by decide +kernel
theorem d_P_twice_4 : decode b_P_twice 4 = .ok (.iload_n 1, 1) := by decide +kernel
theorem d_P_twice_5 : decode b_P_twice 5 = .ok (.invokevirtual 111, 3) := by decide +kernel
theorem d_P_twice_8 : decode b_P_twice 8 = .ok (.ireturn, 1) := by decide +kernel
theorem d_P_turn_0 : decode b_P_turn 0 = .ok (.aload_n 0, 1) := by decide +kernel
theorem d_P_turn_1 : decode b_P_turn 1 = .ok (.iload_n 1, 1) := by decide +kernel
theorem d_P_turn_2 : decode b_P_turn 2 = .ok (.invokevirtual 48, 3) := by decide +kernel
theorem d_P_turn_5 : decode b_P_turn 5 = .ok (.astore_n 3, 1) := by decide +kernel
theorem d_P_turn_6 : decode b_P_turn 6 = .ok (.aload_n 3, 1) := by decide +kernel
theorem d_P_turn_7 : decode b_P_turn 7 = .ok (.ifnull 11, 3) := by decide +kernel
theorem d_P_turn_10 : decode b_P_turn 10 = .ok (.aload_n 3, 1) := by decide +kernel
theorem d_P_turn_11 : decode b_P_turn 11 = .ok (.getfield 52, 3) := by decide +kernel
theorem d_P_turn_14 : decode b_P_turn 14 = .ok (.iload_n 2, 1) := by decide +kernel
theorem d_P_turn_15 : decode b_P_turn 15 = .ok (.if_icmp .ne 5, 3) := by decide +kernel
theorem d_P_turn_18 : decode b_P_turn 18 = .ok (.iconst 0, 1) := by decide +kernel
theorem d_P_turn_19 : decode b_P_turn 19 = .ok (.ireturn, 1) := by decide +kernel
theorem d_P_turn_20 : decode b_P_turn 20 = .ok (.aload_n 3, 1) := by decide +kernel
theorem d_P_turn_21 : decode b_P_turn 21 = .ok (.iload_n 2, 1) := by decide +kernel
theorem d_P_turn_22 : decode b_P_turn 22 = .ok (.putfield 52, 3) := by decide +kernel
theorem d_P_turn_25 : decode b_P_turn 25 = .ok (.aload_n 3, 1) := by decide +kernel
theorem d_P_turn_26 : decode b_P_turn 26 = .ok (.invokevirtual 114, 3) := by decide +kernel
theorem d_P_turn_29 : decode b_P_turn 29 = .ok (.iconst 1, 1) := by decide +kernel
theorem d_P_turn_30 : decode b_P_turn 30 = .ok (.ireturn, 1) := by decide +kernel
theorem d_P_replica_0 : decode b_P_replica 0 = .ok (.aload_n 0, 1) := by decide +kernel
theorem d_P_replica_1 : decode b_P_replica 1 = .ok (.iload_n 1, 1) := by decide +kernel
theorem d_P_replica_2 : decode b_P_replica 2 = .ok (.invokevirtual 48, 3) := by decide +kernel
theorem d_P_replica_5 : decode b_P_replica 5 = .ok (.astore_n 3, 1) := by decide +kernel
theorem d_P_replica_6 : decode b_P_replica 6 = .ok (.aload_n 3, 1) := by decide +kernel
theorem d_P_replica_7 : decode b_P_replica 7 = .ok (.ifnonnull 5, 3) := by decide +kernel
theorem d_P_replica_10 : decode b_P_replica 10 = .ok (.iconst (-1), 1) := by decide +kernel
theorem d_P_replica_11 : decode b_P_replica 11 = .ok (.ireturn, 1) := by decide +kernel
theorem d_P_replica_12 : decode b_P_replica 12 = .ok (.iload_n 2, 1) := by decide +kernel
theorem d_P_replica_13 : decode b_P_replica 13 = .ok (.tableswitch 106 0 6 #[43, 56, 64, 72, 80, 85, 101], 43) := by decide +kernel
theorem d_P_replica_56 : decode b_P_replica 56 = .ok (.aload_n 3, 1) := by decide +kernel
theorem d_P_replica_57 : decode b_P_replica 57 = .ok (.getfield 52, 3) := by decide +kernel
theorem d_P_replica_60 : decode b_P_replica 60 = .ok (.ifCond .eq 7, 3) := by decide +kernel
theorem d_P_replica_63 : decode b_P_replica 63 = .ok (.iconst 1, 1) := by decide +kernel
theorem d_P_replica_64 : decode b_P_replica 64 = .ok (.goto 4, 3) := by decide +kernel
theorem d_P_replica_67 : decode b_P_replica 67 = .ok (.iconst 0, 1) := by decide +kernel
theorem d_P_replica_68 : decode b_P_replica 68 = .ok (.ireturn, 1) := by decide +kernel
theorem d_P_replica_69 : decode b_P_replica 69 = .ok (.aload_n 3, 1) := by decide +kernel
theorem d_P_replica_70 : decode b_P_replica 70 = .ok (.getfield 117, 3) := by decide +kernel
theorem d_P_replica_73 : decode b_P_replica 73 = .ok (.getfield 121, 3) := by decide +kernel
theorem d_P_replica_76 : decode b_P_replica 76 = .ok (.ireturn, 1) := by decide +kernel
theorem d_P_replica_77 : decode b_P_replica 77 = .ok (.aload_n 3, 1) := by decide +kernel
theorem d_P_replica_78 : decode b_P_replica 78 = .ok (.getfield 117, 3) := by decide +kernel
theorem d_P_replica_81 : decode b_P_replica 81 = .ok (.getfield 126, 3) := by decide +kernel
theorem d_P_replica_84 : decode b_P_replica 84 = .ok (.ireturn, 1) := by decide +kernel
theorem d_P_replica_85 : decode b_P_replica 85 = .ok (.aload_n 3, 1) := by decide +kernel
theorem d_P_replica_86 : decode b_P_replica 86 = .ok (.getfield 117, 3) := by decide +kernel
theorem d_P_replica_89 : decode b_P_replica 89 = .ok (.invokevirtual 129, 3) := by decide +kernel
theorem d_P_replica_92 : decode b_P_replica 92 = .ok (.ireturn, 1) := by decide +kernel
theorem d_P_replica_93 : decode b_P_replica 93 = .ok (.aload_n 3, 1) := by decide +kernel
theorem d_P_replica_94 : decode b_P_replica 94 = .ok (.getfield 133, 3) := by decide +kernel
theorem d_P_replica_97 : decode b_P_replica 97 = .ok (.ireturn, 1) := by decide +kernel
theorem d_P_replica_98 : decode b_P_replica 98 = .ok (.aload_n 3, 1) := by decide +kernel
theorem d_P_replica_99 : decode b_P_replica 99 = .ok (.invokevirtual 136, 3) := by decide +kernel
theorem d_P_replica_102 : decode b_P_replica 102 = .ok (.ifCond .eq 10, 3) := by decide +kernel
theorem d_P_replica_105 : decode b_P_replica 105 = .ok (.aload_n 3, 1) := by decide +kernel
theorem d_P_replica_106 : decode b_P_replica 106 = .ok (.getfield 140, 3) := by decide +kernel
theorem d_P_replica_109 : decode b_P_replica 109 = .ok (.goto 4, 3) := by decide +kernel
theorem d_P_replica_112 : decode b_P_replica 112 = .ok (.iconst (-1), 1) := by decide +kernel
theorem d_P_replica_113 : decode b_P_replica 113 = .ok (.ireturn, 1) := by decide +kernel
theorem d_P_replica_114 : decode b_P_replica 114 = .ok (.aload_n 3, 1) := by decide +kernel
theorem d_P_replica_115 : decode b_P_replica 115 = .ok (.getfield 143, 3) := by decide +kernel
theorem d_P_replica_118 : decode b_P_replica 118 = .ok (.ireturn, 1) := by decide +kernel
theorem d_P_replica_119 : decode b_P_replica 119 = .ok (.aload_n 3, 1) := by decide +kernel
theorem d_P_replica_120 : decode b_P_replica 120 = .ok (.getfield 52, 3) := by decide +kernel
theorem d_P_replica_123 : decode b_P_replica 123 = .ok (.ifCond .eq 11, 3) := by decide +kernel
theorem d_P_replica_126 : decode b_P_replica 126 = .ok (.aload_n 3, 1) := by decide +kernel
theorem d_P_replica_127 : decode b_P_replica 127 = .ok (.iload_n 2, 1) := by decide +kernel
theorem d_P_replica_128 : decode b_P_replica 128 = .ok (.invokevirtual 146, 3) := by decide +kernel
theorem d_P_replica_131 : decode b_P_replica 131 = .ok (.goto 4, 3) := by decide +kernel
theorem d_P_replica_134 : decode b_P_replica 134 = .ok (.iconst (-1), 1) := by decide +kernel
theorem d_P_replica_135 : decode b_P_replica 135 = .ok (.ireturn, 1) := by decide +kernel
theorem d_P_slot_0 : decode b_P_slot 0 = .ok (.aload_n 0, 1) := by decide +kernel
theorem d_P_slot_1 : decode b_P_slot 1 = .ok (.iload_n 1, 1) := by decide +kernel
theorem d_P_slot_2 : decode b_P_slot 2 = .ok (.invokevirtual 48, 3) := by decide +kernel
theorem d_P_slot_5 : decode b_P_slot 5 = .ok (.astore_n 3, 1) := by decide +kernel
theorem d_P_slot_6 : decode b_P_slot 6 = .ok (.aload_n 3, 1) := by decide +kernel
theorem d_P_slot_7 : decode b_P_slot 7 = .ok (.ifnonnull 7, 3) := by decide +kernel
theorem d_P_slot_10 : decode b_P_slot 10 = .ok (.iconst 0, 1) := by decide +kernel
theorem d_P_slot_11 : decode b_P_slot 11 = .ok (.goto 11, 3) := by decide +kernel
theorem d_P_slot_14 : decode b_P_slot 14 = .ok (.aload_n 3, 1) := by decide +kernel
theorem d_P_slot_15 : decode b_P_slot 15 = .ok (.getfield 117, 3) := by decide +kernel
theorem d_P_slot_18 : decode b_P_slot 18 = .ok (.iload_n 2, 1) := by decide +kernel
theorem d_P_slot_19 : decode b_P_slot 19 = .ok (.invokevirtual 150, 3) := by decide +kernel
theorem d_P_slot_22 : decode b_P_slot 22 = .ok (.ireturn, 1) := by decide +kernel
theorem d_P_waiting_0 : decode b_P_waiting 0 = .ok (.aload_n 0, 1) := by decide +kernel
theorem d_P_waiting_1 : decode b_P_waiting 1 = .ok (.iload_n 1, 1) := by decide +kernel
theorem d_P_waiting_2 : decode b_P_waiting 2 = .ok (.invokevirtual 48, 3) := by decide +kernel
theorem d_P_waiting_5 : decode b_P_waiting 5 = .ok (.astore_n 3, 1) := by decide +kernel
theorem d_P_waiting_6 : decode b_P_waiting 6 = .ok (.aload_n 3, 1) := by decide +kernel
theorem d_P_waiting_7 : decode b_P_waiting 7 = .ok (.ifnull 10, 3) := by decide +kernel
theorem d_P_waiting_10 : decode b_P_waiting 10 = .ok (.aload_n 3, 1) := by decide +kernel
theorem d_P_waiting_11 : decode b_P_waiting 11 = .ok (.getfield 52, 3) := by decide +kernel
theorem d_P_waiting_14 : decode b_P_waiting 14 = .ok (.ifCond .ne 7, 3) := by decide +kernel
theorem d_P_waiting_17 : decode b_P_waiting 17 = .ok (.iconst 0, 1) := by decide +kernel
theorem d_P_waiting_18 : decode b_P_waiting 18 = .ok (.goto 11, 3) := by decide +kernel
theorem d_P_waiting_21 : decode b_P_waiting 21 = .ok (.aload_n 3, 1) := by decide +kernel
theorem d_P_waiting_22 : decode b_P_waiting 22 = .ok (.getfield 56, 3) := by decide +kernel
theorem d_P_waiting_25 : decode b_P_waiting 25 = .ok (.iload_n 2, 1) := by decide +kernel
theorem d_P_waiting_26 : decode b_P_waiting 26 = .ok (.invokevirtual 153, 3) := by decide +kernel
theorem d_P_waiting_29 : decode b_P_waiting 29 = .ok (.ireturn, 1) := by decide +kernel
theorem d_P_message_0 : decode b_P_message 0 = .ok (.aload_n 0, 1) := by decide +kernel
theorem d_P_message_1 : decode b_P_message 1 = .ok (.getfield 37, 3) := by decide +kernel
theorem d_P_message_4 : decode b_P_message 4 = .ok (.iload_n 1, 1) := by decide +kernel
theorem d_P_message_5 : decode b_P_message 5 = .ok (.iload_n 2, 1) := by decide +kernel
theorem d_P_message_6 : decode b_P_message 6 = .ok (.invokevirtual 156, 3) := by decide +kernel
theorem d_P_message_9 : decode b_P_message 9 = .ok (.ireturn, 1) := by decide +kernel
theorem d_P_look_0 : decode b_P_look 0 = .ok (.iload_n 1, 1) := by decide +kernel
theorem d_P_look_1 : decode b_P_look 1 = .ok (.tableswitch 78 0 5 #[39, 44, 49, 57, 65, 73], 39) := by decide +kernel
theorem d_P_look_40 : decode b_P_look 40 = .ok (.aload_n 0, 1) := by decide +kernel
theorem d_P_look_41 : decode b_P_look 41 = .ok (.getfield 18, 3) := by decide +kernel
theorem d_P_look_44 : decode b_P_look 44 = .ok (.ireturn, 1) := by decide +kernel
theorem d_P_look_45 : decode b_P_look 45 = .ok (.aload_n 0, 1) := by decide +kernel
theorem d_P_look_46 : decode b_P_look 46 = .ok (.getfield 22, 3) := by decide +kernel
theorem d_P_look_49 : decode b_P_look 49 = .ok (.ireturn, 1) := by decide +kernel
theorem d_P_look_50 : decode b_P_look 50 = .ok (.aload_n 0, 1) := by decide +kernel
theorem d_P_look_51 : decode b_P_look 51 = .ok (.getfield 37, 3) := by decide +kernel
theorem d_P_look_54 : decode b_P_look 54 = .ok (.getfield 89, 3) := by decide +kernel
theorem d_P_look_57 : decode b_P_look 57 = .ok (.ireturn, 1) := by decide +kernel
theorem d_P_look_58 : decode b_P_look 58 = .ok (.aload_n 0, 1) := by decide +kernel
theorem d_P_look_59 : decode b_P_look 59 = .ok (.getfield 37, 3) := by decide +kernel
theorem d_P_look_62 : decode b_P_look 62 = .ok (.getfield 159, 3) := by decide +kernel
theorem d_P_look_65 : decode b_P_look 65 = .ok (.ireturn, 1) := by decide +kernel
theorem d_P_look_66 : decode b_P_look 66 = .ok (.aload_n 0, 1) := by decide +kernel
theorem d_P_look_67 : decode b_P_look 67 = .ok (.getfield 37, 3) := by decide +kernel
theorem d_P_look_70 : decode b_P_look 70 = .ok (.getfield 162, 3) := by decide +kernel
theorem d_P_look_73 : decode b_P_look 73 = .ok (.ireturn, 1) := by decide +kernel
theorem d_P_look_74 : decode b_P_look 74 = .ok (.aload_n 0, 1) := by decide +kernel
theorem d_P_look_75 : decode b_P_look 75 = .ok (.invokevirtual 165, 3) := by decide +kernel
theorem d_P_look_78 : decode b_P_look 78 = .ok (.ireturn, 1) := by decide +kernel
theorem d_P_look_79 : decode b_P_look 79 = .ok (.iconst (-1), 1) := by decide +kernel
theorem d_P_look_80 : decode b_P_look 80 = .ok (.ireturn, 1) := by decide +kernel
theorem d_P_find_0 : decode b_P_find 0 = .ok (.iload_n 1, 1) := by decide +kernel
theorem d_P_find_1 : decode b_P_find 1 = .ok (.ifCond .lt 20, 3) := by decide +kernel
theorem d_P_find_4 : decode b_P_find 4 = .ok (.iload_n 1, 1) := by decide +kernel
theorem d_P_find_5 : decode b_P_find 5 = .ok (.aload_n 0, 1) := by decide +kernel
theorem d_P_find_6 : decode b_P_find 6 = .ok (.getfield 18, 3) := by decide +kernel
theorem d_P_find_9 : decode b_P_find 9 = .ok (.if_icmp .ge 12, 3) := by decide +kernel
theorem d_P_find_12 : decode b_P_find 12 = .ok (.aload_n 0, 1) := by decide +kernel
theorem d_P_find_13 : decode b_P_find 13 = .ok (.getfield 27, 3) := by decide +kernel
theorem d_P_find_16 : decode b_P_find 16 = .ok (.iload_n 1, 1) := by decide +kernel
theorem d_P_find_17 : decode b_P_find 17 = .ok (.aaload, 1) := by decide +kernel
theorem d_P_find_18 : decode b_P_find 18 = .ok (.goto 4, 3) := by decide +kernel
theorem d_P_find_21 : decode b_P_find 21 = .ok (.aconst_null, 1) := by decide +kernel
theorem d_P_find_22 : decode b_P_find 22 = .ok (.areturn, 1) := by decide +kernel
theorem d_P_greatestIndex_0 : decode b_P_greatestIndex 0 = .ok (.iconst 0, 1) := by decide +kernel
theorem d_P_greatestIndex_1 : decode b_P_greatestIndex 1 = .ok (.istore_n 1, 1) := by decide +kernel
theorem d_P_greatestIndex_2 : decode b_P_greatestIndex 2 = .ok (.iconst 0, 1) := by decide +kernel
theorem d_P_greatestIndex_3 : decode b_P_greatestIndex 3 = .ok (.istore_n 2, 1) := by decide +kernel
theorem d_P_greatestIndex_4 : decode b_P_greatestIndex 4 = .ok (.iload_n 2, 1) := by decide +kernel
theorem d_P_greatestIndex_5 : decode b_P_greatestIndex 5 = .ok (.aload_n 0, 1) := by decide +kernel
theorem d_P_greatestIndex_6 : decode b_P_greatestIndex 6 = .ok (.getfield 18, 3) := by decide +kernel
theorem d_P_greatestIndex_9 : decode b_P_greatestIndex 9 = .ok (.if_icmp .ge 26, 3) := by decide +kernel
theorem d_P_greatestIndex_12 : decode b_P_greatestIndex 12 = .ok (.iload_n 1, 1) := by decide +kernel
theorem d_P_greatestIndex_13 : decode b_P_greatestIndex 13 = .ok (.aload_n 0, 1) := by decide +kernel
theorem d_P_greatestIndex_14 : decode b_P_greatestIndex 14 = .ok (.getfield 27, 3) := by decide +kernel
theorem d_P_greatestIndex_17 : decode b_P_greatestIndex 17 = .ok (.iload_n 2, 1) := by decide +kernel
theorem d_P_greatestIndex_18 : decode b_P_greatestIndex 18 = .ok (.aaload, 1) := by decide +kernel
theorem d_P_greatestIndex_19 : decode b_P_greatestIndex 19 = .ok (.getfield 117, 3) := by decide +kernel
theorem d_P_greatestIndex_22 : decode b_P_greatestIndex 22 = .ok (.getfield 121, 3) := by decide +kernel
theorem d_P_greatestIndex_25 : decode b_P_greatestIndex 25 = .ok (.invokestatic 15, 3) := by decide +kernel
theorem d_P_greatestIndex_28 : decode b_P_greatestIndex 28 = .ok (.istore_n 1, 1) := by decide +kernel
theorem d_P_greatestIndex_29 : decode b_P_greatestIndex 29 = .ok (.iinc 2 1, 3) := by decide +kernel
theorem d_P_greatestIndex_32 : decode b_P_greatestIndex 32 = .ok (.goto (-28), 3) := by decide +kernel
theorem d_P_greatestIndex_35 : decode b_P_greatestIndex 35 = .ok (.iload_n 1, 1) := by decide +kernel
theorem d_P_greatestIndex_36 : decode b_P_greatestIndex 36 = .ok (.ireturn, 1) := by decide +kernel
theorem d_P_isMajority_0 : decode b_P_isMajority 0 = .ok (.iconst 2, 1) := by decide +kernel
theorem d_P_isMajority_1 : decode b_P_isMajority 1 = .ok (.iload_n 1, 1) := by decide +kernel
theorem d_P_isMajority_2 : decode b_P_isMajority 2 = .ok (.invokestatic 168, 3) := by decide +kernel
theorem d_P_isMajority_5 : decode b_P_isMajority 5 = .ok (.imul, 1) := by decide +kernel
theorem d_P_isMajority_6 : decode b_P_isMajority 6 = .ok (.aload_n 0, 1) := by decide +kernel
theorem d_P_isMajority_7 : decode b_P_isMajority 7 = .ok (.getfield 18, 3) := by decide +kernel
theorem d_P_isMajority_10 : decode b_P_isMajority 10 = .ok (.if_icmp .le 7, 3) := by decide +kernel
theorem d_P_isMajority_13 : decode b_P_isMajority 13 = .ok (.iconst 1, 1) := by decide +kernel
theorem d_P_isMajority_14 : decode b_P_isMajority 14 = .ok (.goto 4, 3) := by decide +kernel
theorem d_P_isMajority_17 : decode b_P_isMajority 17 = .ok (.iconst 0, 1) := by decide +kernel
theorem d_P_isMajority_18 : decode b_P_isMajority 18 = .ok (.ireturn, 1) := by decide +kernel
theorem d_P_tickLeader_0 : decode b_P_tickLeader 0 = .ok (.aload_n 1, 1) := by decide +kernel
theorem d_P_tickLeader_1 : decode b_P_tickLeader 1 = .ok (.getfield 173, 3) := by decide +kernel
theorem d_P_tickLeader_4 : decode b_P_tickLeader 4 = .ok (.ifCond .eq 11, 3) := by decide +kernel
theorem d_P_tickLeader_7 : decode b_P_tickLeader 7 = .ok (.aload_n 0, 1) := by decide +kernel
theorem d_P_tickLeader_8 : decode b_P_tickLeader 8 = .ok (.aload_n 1, 1) := by decide +kernel
theorem d_P_tickLeader_9 : decode b_P_tickLeader 9 = .ok (.invokevirtual 176, 3) := by decide +kernel
theorem d_P_tickLeader_12 : decode b_P_tickLeader 12 = .ok (.goto 8, 3) := by decide +kernel
theorem d_P_tickLeader_15 : decode b_P_tickLeader 15 = .ok (.aload_n 0, 1) := by decide +kernel
theorem d_P_tickLeader_16 : decode b_P_tickLeader 16 = .ok (.aload_n 1, 1) := by decide +kernel
theorem d_P_tickLeader_17 : decode b_P_tickLeader 17 = .ok (.invokevirtual 179, 3) := by decide +kernel
theorem d_P_tickLeader_20 : decode b_P_tickLeader 20 = .ok (.return_, 1) := by decide +kernel
theorem d_P_campaign_0 : decode b_P_campaign 0 = .ok (.aload_n 1, 1) := by decide +kernel
theorem d_P_campaign_1 : decode b_P_campaign 1 = .ok (.aload_n 0, 1) := by decide +kernel
theorem d_P_campaign_2 : decode b_P_campaign 2 = .ok (.aload_n 1, 1) := by decide +kernel
theorem d_P_campaign_3 : decode b_P_campaign 3 = .ok (.invokevirtual 182, 3) := by decide +kernel
theorem d_P_campaign_6 : decode b_P_campaign 6 = .ok (.invokevirtual 186, 3) := by decide +kernel
theorem d_P_campaign_9 : decode b_P_campaign 9 = .ok (.aload_n 0, 1) := by decide +kernel
theorem d_P_campaign_10 : decode b_P_campaign 10 = .ok (.aload_n 1, 1) := by decide +kernel
theorem d_P_campaign_11 : decode b_P_campaign 11 = .ok (.invokevirtual 73, 3) := by decide +kernel
theorem d_P_campaign_14 : decode b_P_campaign 14 = .ok (.return_, 1) := by decide +kernel
theorem d_P_nextBallot_0 : decode b_P_nextBallot 0 = .ok (.aload_n 1, 1) := by decide +kernel
theorem d_P_nextBallot_1 : decode b_P_nextBallot 1 = .ok (.getfield 133, 3) := by decide +kernel
theorem d_P_nextBallot_4 : decode b_P_nextBallot 4 = .ok (.aload_n 1, 1) := by decide +kernel
theorem d_P_nextBallot_5 : decode b_P_nextBallot 5 = .ok (.getfield 189, 3) := by decide +kernel
theorem d_P_nextBallot_8 : decode b_P_nextBallot 8 = .ok (.invokestatic 15, 3) := by decide +kernel
theorem d_P_nextBallot_11 : decode b_P_nextBallot 11 = .ok (.istore_n 2, 1) := by decide +kernel
theorem d_P_nextBallot_12 : decode b_P_nextBallot 12 = .ok (.iload_n 2, 1) := by decide +kernel
theorem d_P_nextBallot_13 : decode b_P_nextBallot 13 = .ok (.iload_n 2, 1) := by decide +kernel
theorem d_P_nextBallot_14 : decode b_P_nextBallot 14 = .ok (.aload_n 0, 1) := by decide +kernel
theorem d_P_nextBallot_15 : decode b_P_nextBallot 15 = .ok (.getfield 18, 3) := by decide +kernel
theorem d_P_nextBallot_18 : decode b_P_nextBallot 18 = .ok (.irem, 1) := by decide +kernel
theorem d_P_nextBallot_19 : decode b_P_nextBallot 19 = .ok (.isub, 1) := by decide +kernel
theorem d_P_nextBallot_20 : decode b_P_nextBallot 20 = .ok (.aload_n 1, 1) := by decide +kernel
theorem d_P_nextBallot_21 : decode b_P_nextBallot 21 = .ok (.getfield 82, 3) := by decide +kernel
theorem d_P_nextBallot_24 : decode b_P_nextBallot 24 = .ok (.iadd, 1) := by decide +kernel
theorem d_P_nextBallot_25 : decode b_P_nextBallot 25 = .ok (.istore_n 3, 1) := by decide +kernel
theorem d_P_nextBallot_26 : decode b_P_nextBallot 26 = .ok (.iload_n 3, 1) := by decide +kernel
theorem d_P_nextBallot_27 : decode b_P_nextBallot 27 = .ok (.iload_n 2, 1) := by decide +kernel
theorem d_P_nextBallot_28 : decode b_P_nextBallot 28 = .ok (.if_icmp .le 7, 3) := by decide +kernel
theorem d_P_nextBallot_31 : decode b_P_nextBallot 31 = .ok (.iload_n 3, 1) := by decide +kernel
theorem d_P_nextBallot_32 : decode b_P_nextBallot 32 = .ok (.goto 9, 3) := by decide +kernel
theorem d_P_nextBallot_35 : decode b_P_nextBallot 35 = .ok (.iload_n 3, 1) := by decide +kernel
theorem d_P_nextBallot_36 : decode b_P_nextBallot 36 = .ok (.aload_n 0, 1) := by decide +kernel
theorem d_P_nextBallot_37 : decode b_P_nextBallot 37 = .ok (.getfield 18, 3) := by decide +kernel
theorem d_P_nextBallot_40 : decode b_P_nextBallot 40 = .ok (.iadd, 1) := by decide +kernel
theorem d_P_nextBallot_41 : decode b_P_nextBallot 41 = .ok (.ireturn, 1) := by decide +kernel
theorem d_P_propose_0 : decode b_P_propose 0 = .ok (.aload_n 1, 1) := by decide +kernel
theorem d_P_propose_1 : decode b_P_propose 1 = .ok (.getfield 56, 3) := by decide +kernel
theorem d_P_propose_4 : decode b_P_propose 4 = .ok (.iconst 0, 1) := by decide +kernel
theorem d_P_propose_5 : decode b_P_propose 5 = .ok (.invokevirtual 153, 3) := by decide +kernel
theorem d_P_propose_8 : decode b_P_propose 8 = .ok (.istore_n 2, 1) := by decide +kernel
theorem d_P_propose_9 : decode b_P_propose 9 = .ok (.iload_n 2, 1) := by decide +kernel
theorem d_P_propose_10 : decode b_P_propose 10 = .ok (.ifCond .eq 9, 3) := by decide +kernel
theorem d_P_propose_13 : decode b_P_propose 13 = .ok (.aload_n 0, 1) := by decide +kernel
theorem d_P_propose_14 : decode b_P_propose 14 = .ok (.aload_n 1, 1) := by decide +kernel
theorem d_P_propose_15 : decode b_P_propose 15 = .ok (.iload_n 2, 1) := by decide +kernel
theorem d_P_propose_16 : decode b_P_propose 16 = .ok (.invokevirtual 192, 3) := by decide +kernel
theorem d_P_propose_19 : decode b_P_propose 19 = .ok (.return_, 1) := by decide +kernel
theorem d_P_proposeNumber_0 : decode b_P_proposeNumber 0 = .ok (.aload_n 1, 1) := by decide +kernel
theorem d_P_proposeNumber_1 : decode b_P_proposeNumber 1 = .ok (.iload_n 2, 1) := by decide +kernel
theorem d_P_proposeNumber_2 : decode b_P_proposeNumber 2 = .ok (.invokevirtual 195, 3) := by decide +kernel
theorem d_P_proposeNumber_5 : decode b_P_proposeNumber 5 = .ok (.aload_n 0, 1) := by decide +kernel
theorem d_P_proposeNumber_6 : decode b_P_proposeNumber 6 = .ok (.aload_n 1, 1) := by decide +kernel
theorem d_P_proposeNumber_7 : decode b_P_proposeNumber 7 = .ok (.invokevirtual 176, 3) := by decide +kernel
theorem d_P_proposeNumber_10 : decode b_P_proposeNumber 10 = .ok (.return_, 1) := by decide +kernel
theorem d_P_arrive_0 : decode b_P_arrive 0 = .ok (.aload_n 1, 1) := by decide +kernel
theorem d_P_arrive_1 : decode b_P_arrive 1 = .ok (.aload_n 1, 1) := by decide +kernel
theorem d_P_arrive_2 : decode b_P_arrive 2 = .ok (.getfield 189, 3) := by decide +kernel
theorem d_P_arrive_5 : decode b_P_arrive 5 = .ok (.aload_n 2, 1) := by decide +kernel
theorem d_P_arrive_6 : decode b_P_arrive 6 = .ok (.getfield 198, 3) := by decide +kernel
theorem d_P_arrive_9 : decode b_P_arrive 9 = .ok (.invokestatic 15, 3) := by decide +kernel
theorem d_P_arrive_12 : decode b_P_arrive 12 = .ok (.putfield 189, 3) := by decide +kernel
theorem d_P_arrive_15 : decode b_P_arrive 15 = .ok (.aload_n 2, 1) := by decide +kernel
theorem d_P_arrive_16 : decode b_P_arrive 16 = .ok (.getfield 108, 3) := by decide +kernel
theorem d_P_arrive_19 : decode b_P_arrive 19 = .ok (.tableswitch 104 1 7 #[41, 50, 59, 68, 77, 86, 95], 41) := by decide +kernel
theorem d_P_arrive_60 : decode b_P_arrive 60 = .ok (.aload_n 0, 1) := by decide +kernel
theorem d_P_arrive_61 : decode b_P_arrive 61 = .ok (.aload_n 1, 1) := by decide +kernel
theorem d_P_arrive_62 : decode b_P_arrive 62 = .ok (.aload_n 2, 1) := by decide +kernel
theorem d_P_arrive_63 : decode b_P_arrive 63 = .ok (.invokevirtual 201, 3) := by decide +kernel
theorem d_P_arrive_66 : decode b_P_arrive 66 = .ok (.goto 63, 3) := by decide +kernel
theorem d_P_arrive_69 : decode b_P_arrive 69 = .ok (.aload_n 0, 1) := by decide +kernel
theorem d_P_arrive_70 : decode b_P_arrive 70 = .ok (.aload_n 1, 1) := by decide +kernel
theorem d_P_arrive_71 : decode b_P_arrive 71 = .ok (.aload_n 2, 1) := by decide +kernel
theorem d_P_arrive_72 : decode b_P_arrive 72 = .ok (.invokevirtual 204, 3) := by decide +kernel
theorem d_P_arrive_75 : decode b_P_arrive 75 = .ok (.goto 54, 3) := by decide +kernel
theorem d_P_arrive_78 : decode b_P_arrive 78 = .ok (.aload_n 0, 1) := by decide +kernel
theorem d_P_arrive_79 : decode b_P_arrive 79 = .ok (.aload_n 1, 1) := by decide +kernel
theorem d_P_arrive_80 : decode b_P_arrive 80 = .ok (.aload_n 2, 1) := by decide +kernel
theorem d_P_arrive_81 : decode b_P_arrive 81 = .ok (.invokevirtual 207, 3) := by decide +kernel
theorem d_P_arrive_84 : decode b_P_arrive 84 = .ok (.goto 45, 3) := by decide +kernel
theorem d_P_arrive_87 : decode b_P_arrive 87 = .ok (.aload_n 0, 1) := by decide +kernel
theorem d_P_arrive_88 : decode b_P_arrive 88 = .ok (.aload_n 1, 1) := by decide +kernel
theorem d_P_arrive_89 : decode b_P_arrive 89 = .ok (.aload_n 2, 1) := by decide +kernel
theorem d_P_arrive_90 : decode b_P_arrive 90 = .ok (.invokevirtual 210, 3) := by decide +kernel
theorem d_P_arrive_93 : decode b_P_arrive 93 = .ok (.goto 36, 3) := by decide +kernel
