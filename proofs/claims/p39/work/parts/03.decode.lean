theorem dX0_init_0 : decode cX0_init 0 = .ok (.aload_n 0, 1) := by decide +kernel
theorem dX0_init_1 : decode cX0_init 1 = .ok (.invokespecial 1, 3) := by decide +kernel
theorem dX0_init_4 : decode cX0_init 4 = .ok (.aload_n 0, 1) := by decide +kernel
theorem dX0_init_5 : decode cX0_init 5 = .ok (.new 7, 3) := by decide +kernel
theorem dX0_init_8 : decode cX0_init 8 = .ok (.dup, 1) := by decide +kernel
theorem dX0_init_9 : decode cX0_init 9 = .ok (.invokespecial 9, 3) := by decide +kernel
theorem dX0_init_12 : decode cX0_init 12 = .ok (.putfield 10, 3) := by decide +kernel
theorem dX0_init_15 : decode cX0_init 15 = .ok (.aload_n 0, 1) := by decide +kernel
theorem dX0_init_16 : decode cX0_init 16 = .ok (.iload_n 1, 1) := by decide +kernel
theorem dX0_init_17 : decode cX0_init 17 = .ok (.putfield 16, 3) := by decide +kernel
theorem dX0_init_20 : decode cX0_init 20 = .ok (.aload_n 0, 1) := by decide +kernel
theorem dX0_init_21 : decode cX0_init 21 = .ok (.iload_n 2, 1) := by decide +kernel
theorem dX0_init_22 : decode cX0_init 22 = .ok (.putfield 20, 3) := by decide +kernel
theorem dX0_init_25 : decode cX0_init 25 = .ok (.return_, 1) := by decide +kernel
theorem dX1_init_0 : decode cX1_init 0 = .ok (.aload_n 0, 1) := by decide +kernel
theorem dX1_init_1 : decode cX1_init 1 = .ok (.invokespecial 3, 3) := by decide +kernel
theorem dX1_init_4 : decode cX1_init 4 = .ok (.aload_n 0, 1) := by decide +kernel
theorem dX1_init_5 : decode cX1_init 5 = .ok (.iload_n 1, 1) := by decide +kernel
theorem dX1_init_6 : decode cX1_init 6 = .ok (.putfield 9, 3) := by decide +kernel
theorem dX1_init_9 : decode cX1_init 9 = .ok (.aload_n 0, 1) := by decide +kernel
theorem dX1_init_10 : decode cX1_init 10 = .ok (.iload_n 2, 1) := by decide +kernel
theorem dX1_init_11 : decode cX1_init 11 = .ok (.putfield 15, 3) := by decide +kernel
theorem dX1_init_14 : decode cX1_init 14 = .ok (.aload_n 0, 1) := by decide +kernel
theorem dX1_init_15 : decode cX1_init 15 = .ok (.iload_n 3, 1) := by decide +kernel
theorem dX1_init_16 : decode cX1_init 16 = .ok (.putfield 19, 3) := by decide +kernel
theorem dX1_init_19 : decode cX1_init 19 = .ok (.aload_n 0, 1) := by decide +kernel
theorem dX1_init_20 : decode cX1_init 20 = .ok (.iload 4, 2) := by decide +kernel
theorem dX1_init_22 : decode cX1_init 22 = .ok (.putfield 22, 3) := by decide +kernel
theorem dX1_init_25 : decode cX1_init 25 = .ok (.aload_n 0, 1) := by decide +kernel
theorem dX1_init_26 : decode cX1_init 26 = .ok (.iload 5, 2) := by decide +kernel
theorem dX1_init_28 : decode cX1_init 28 = .ok (.putfield 25, 3) := by decide +kernel
theorem dX1_init_31 : decode cX1_init 31 = .ok (.aload_n 0, 1) := by decide +kernel
theorem dX1_init_32 : decode cX1_init 32 = .ok (.iload 6, 2) := by decide +kernel
theorem dX1_init_34 : decode cX1_init 34 = .ok (.putfield 28, 3) := by decide +kernel
theorem dX1_init_37 : decode cX1_init 37 = .ok (.return_, 1) := by decide +kernel
theorem dX1_canAsk_0 : decode cX1_canAsk 0 = .ok (.iload_n 0, 1) := by decide +kernel
theorem dX1_canAsk_1 : decode cX1_canAsk 1 = .ok (.bipush 119, 2) := by decide +kernel
theorem dX1_canAsk_3 : decode cX1_canAsk 3 = .ok (.if_icmp .ne 8, 3) := by decide +kernel
theorem dX1_canAsk_6 : decode cX1_canAsk 6 = .ok (.iload_n 1, 1) := by decide +kernel
theorem dX1_canAsk_7 : decode cX1_canAsk 7 = .ok (.invokestatic 31, 3) := by decide +kernel
theorem dX1_canAsk_10 : decode cX1_canAsk 10 = .ok (.ireturn, 1) := by decide +kernel
theorem dX1_canAsk_11 : decode cX1_canAsk 11 = .ok (.iload_n 0, 1) := by decide +kernel
theorem dX1_canAsk_12 : decode cX1_canAsk 12 = .ok (.bipush 112, 2) := by decide +kernel
theorem dX1_canAsk_14 : decode cX1_canAsk 14 = .ok (.if_icmp .ne 23, 3) := by decide +kernel
theorem dX1_canAsk_17 : decode cX1_canAsk 17 = .ok (.iload_n 1, 1) := by decide +kernel
theorem dX1_canAsk_18 : decode cX1_canAsk 18 = .ok (.invokestatic 31, 3) := by decide +kernel
theorem dX1_canAsk_21 : decode cX1_canAsk 21 = .ok (.ifCond .eq 14, 3) := by decide +kernel
theorem dX1_canAsk_24 : decode cX1_canAsk 24 = .ok (.iload_n 2, 1) := by decide +kernel
theorem dX1_canAsk_25 : decode cX1_canAsk 25 = .ok (.invokestatic 31, 3) := by decide +kernel
theorem dX1_canAsk_28 : decode cX1_canAsk 28 = .ok (.ifCond .eq 7, 3) := by decide +kernel
theorem dX1_canAsk_31 : decode cX1_canAsk 31 = .ok (.iconst 1, 1) := by decide +kernel
theorem dX1_canAsk_32 : decode cX1_canAsk 32 = .ok (.goto 4, 3) := by decide +kernel
theorem dX1_canAsk_35 : decode cX1_canAsk 35 = .ok (.iconst 0, 1) := by decide +kernel
theorem dX1_canAsk_36 : decode cX1_canAsk 36 = .ok (.ireturn, 1) := by decide +kernel
theorem dX1_canAsk_37 : decode cX1_canAsk 37 = .ok (.iload_n 3, 1) := by decide +kernel
theorem dX1_canAsk_38 : decode cX1_canAsk 38 = .ok (.iconst 1, 1) := by decide +kernel
theorem dX1_canAsk_39 : decode cX1_canAsk 39 = .ok (.if_icmp .lt 13, 3) := by decide +kernel
theorem dX1_canAsk_42 : decode cX1_canAsk 42 = .ok (.iload_n 3, 1) := by decide +kernel
theorem dX1_canAsk_43 : decode cX1_canAsk 43 = .ok (.bipush 9, 2) := by decide +kernel
theorem dX1_canAsk_45 : decode cX1_canAsk 45 = .ok (.if_icmp .gt 7, 3) := by decide +kernel
theorem dX1_canAsk_48 : decode cX1_canAsk 48 = .ok (.iconst 1, 1) := by decide +kernel
theorem dX1_canAsk_49 : decode cX1_canAsk 49 = .ok (.goto 4, 3) := by decide +kernel
theorem dX1_canAsk_52 : decode cX1_canAsk 52 = .ok (.iconst 0, 1) := by decide +kernel
theorem dX1_canAsk_53 : decode cX1_canAsk 53 = .ok (.istore 4, 2) := by decide +kernel
theorem dX1_canAsk_55 : decode cX1_canAsk 55 = .ok (.iload_n 0, 1) := by decide +kernel
theorem dX1_canAsk_56 : decode cX1_canAsk 56 = .ok (.bipush 110, 2) := by decide +kernel
theorem dX1_canAsk_58 : decode cX1_canAsk 58 = .ok (.if_icmp .ne 26, 3) := by decide +kernel
theorem dX1_canAsk_61 : decode cX1_canAsk 61 = .ok (.iload_n 1, 1) := by decide +kernel
theorem dX1_canAsk_62 : decode cX1_canAsk 62 = .ok (.invokestatic 31, 3) := by decide +kernel
theorem dX1_canAsk_65 : decode cX1_canAsk 65 = .ok (.ifCond .eq 19, 3) := by decide +kernel
theorem dX1_canAsk_68 : decode cX1_canAsk 68 = .ok (.iload_n 2, 1) := by decide +kernel
theorem dX1_canAsk_69 : decode cX1_canAsk 69 = .ok (.invokestatic 31, 3) := by decide +kernel
theorem dX1_canAsk_72 : decode cX1_canAsk 72 = .ok (.ifCond .eq 12, 3) := by decide +kernel
theorem dX1_canAsk_75 : decode cX1_canAsk 75 = .ok (.iload 4, 2) := by decide +kernel
theorem dX1_canAsk_77 : decode cX1_canAsk 77 = .ok (.ifCond .eq 7, 3) := by decide +kernel
theorem dX1_canAsk_80 : decode cX1_canAsk 80 = .ok (.iconst 1, 1) := by decide +kernel
theorem dX1_canAsk_81 : decode cX1_canAsk 81 = .ok (.goto 4, 3) := by decide +kernel
theorem dX1_canAsk_84 : decode cX1_canAsk 84 = .ok (.iconst 0, 1) := by decide +kernel
theorem dX1_canAsk_85 : decode cX1_canAsk 85 = .ok (.ireturn, 1) := by decide +kernel
theorem dX1_canJoin_0 : decode cX1_canJoin 0 = .ok (.iload_n 0, 1) := by decide +kernel
theorem dX1_canJoin_1 : decode cX1_canJoin 1 = .ok (.bipush 97, 2) := by decide +kernel
theorem dX1_canJoin_3 : decode cX1_canJoin 3 = .ok (.if_icmp .eq 21, 3) := by decide +kernel
theorem dX1_canJoin_6 : decode cX1_canJoin 6 = .ok (.iload_n 0, 1) := by decide +kernel
theorem dX1_canJoin_7 : decode cX1_canJoin 7 = .ok (.bipush 111, 2) := by decide +kernel
theorem dX1_canJoin_9 : decode cX1_canJoin 9 = .ok (.if_icmp .eq 15, 3) := by decide +kernel
theorem dX1_canJoin_12 : decode cX1_canJoin 12 = .ok (.iload_n 0, 1) := by decide +kernel
theorem dX1_canJoin_13 : decode cX1_canJoin 13 = .ok (.bipush 120, 2) := by decide +kernel
theorem dX1_canJoin_15 : decode cX1_canJoin 15 = .ok (.if_icmp .eq 9, 3) := by decide +kernel
theorem dX1_canJoin_18 : decode cX1_canJoin 18 = .ok (.iload_n 0, 1) := by decide +kernel
theorem dX1_canJoin_19 : decode cX1_canJoin 19 = .ok (.bipush 105, 2) := by decide +kernel
theorem dX1_canJoin_21 : decode cX1_canJoin 21 = .ok (.if_icmp .ne 7, 3) := by decide +kernel
theorem dX1_canJoin_24 : decode cX1_canJoin 24 = .ok (.iconst 1, 1) := by decide +kernel
theorem dX1_canJoin_25 : decode cX1_canJoin 25 = .ok (.goto 4, 3) := by decide +kernel
theorem dX1_canJoin_28 : decode cX1_canJoin 28 = .ok (.iconst 0, 1) := by decide +kernel
theorem dX1_canJoin_29 : decode cX1_canJoin 29 = .ok (.ireturn, 1) := by decide +kernel
theorem dX1_isOfWords_0 : decode cX1_isOfWords 0 = .ok (.aload_n 0, 1) := by decide +kernel
theorem dX1_isOfWords_1 : decode cX1_isOfWords 1 = .ok (.getfield 9, 3) := by decide +kernel
theorem dX1_isOfWords_4 : decode cX1_isOfWords 4 = .ok (.invokestatic 35, 3) := by decide +kernel
theorem dX1_isOfWords_7 : decode cX1_isOfWords 7 = .ok (.ifCond .ne 7, 3) := by decide +kernel
theorem dX1_isOfWords_10 : decode cX1_isOfWords 10 = .ok (.iconst 1, 1) := by decide +kernel
theorem dX1_isOfWords_11 : decode cX1_isOfWords 11 = .ok (.goto 4, 3) := by decide +kernel
theorem dX1_isOfWords_14 : decode cX1_isOfWords 14 = .ok (.iconst 0, 1) := by decide +kernel
theorem dX1_isOfWords_15 : decode cX1_isOfWords 15 = .ok (.ireturn, 1) := by decide +kernel
theorem dX1_nameParts_0 : decode cX1_nameParts 0 = .ok (.aload_n 0, 1) := by decide +kernel
theorem dX1_nameParts_1 : decode cX1_nameParts 1 = .ok (.invokevirtual 39, 3) := by decide +kernel
theorem dX1_nameParts_4 : decode cX1_nameParts 4 = .ok (.ifCond .eq 4, 3) := by decide +kernel
theorem dX1_nameParts_7 : decode cX1_nameParts 7 = .ok (.return_, 1) := by decide +kernel
theorem dX1_nameParts_8 : decode cX1_nameParts 8 = .ok (.aload_n 1, 1) := by decide +kernel
theorem dX1_nameParts_9 : decode cX1_nameParts 9 = .ok (.aload_n 0, 1) := by decide +kernel
theorem dX1_nameParts_10 : decode cX1_nameParts 10 = .ok (.getfield 15, 3) := by decide +kernel
theorem dX1_nameParts_13 : decode cX1_nameParts 13 = .ok (.iconst 1, 1) := by decide +kernel
theorem dX1_nameParts_14 : decode cX1_nameParts 14 = .ok (.invokevirtual 43, 3) := by decide +kernel
theorem dX1_nameParts_17 : decode cX1_nameParts 17 = .ok (.aload_n 0, 1) := by decide +kernel
theorem dX1_nameParts_18 : decode cX1_nameParts 18 = .ok (.getfield 9, 3) := by decide +kernel
theorem dX1_nameParts_21 : decode cX1_nameParts 21 = .ok (.bipush 120, 2) := by decide +kernel
theorem dX1_nameParts_23 : decode cX1_nameParts 23 = .ok (.if_icmp .ne 7, 3) := by decide +kernel
theorem dX1_nameParts_26 : decode cX1_nameParts 26 = .ok (.iload_n 2, 1) := by decide +kernel
theorem dX1_nameParts_27 : decode cX1_nameParts 27 = .ok (.ifCond .ne 12, 3) := by decide +kernel
theorem dX1_nameParts_30 : decode cX1_nameParts 30 = .ok (.aload_n 1, 1) := by decide +kernel
theorem dX1_nameParts_31 : decode cX1_nameParts 31 = .ok (.aload_n 0, 1) := by decide +kernel
theorem dX1_nameParts_32 : decode cX1_nameParts 32 = .ok (.getfield 19, 3) := by decide +kernel
theorem dX1_nameParts_35 : decode cX1_nameParts 35 = .ok (.iconst 1, 1) := by decide +kernel
theorem dX1_nameParts_36 : decode cX1_nameParts 36 = .ok (.invokevirtual 43, 3) := by decide +kernel
theorem dX1_nameParts_39 : decode cX1_nameParts 39 = .ok (.return_, 1) := by decide +kernel
theorem dX1_timesIn_0 : decode cX1_timesIn 0 = .ok (.aload_n 0, 1) := by decide +kernel
theorem dX1_timesIn_1 : decode cX1_timesIn 1 = .ok (.getfield 9, 3) := by decide +kernel
theorem dX1_timesIn_4 : decode cX1_timesIn 4 = .ok (.bipush 119, 2) := by decide +kernel
theorem dX1_timesIn_6 : decode cX1_timesIn 6 = .ok (.if_icmp .ne 12, 3) := by decide +kernel
theorem dX1_timesIn_9 : decode cX1_timesIn 9 = .ok (.aload_n 1, 1) := by decide +kernel
theorem dX1_timesIn_10 : decode cX1_timesIn 10 = .ok (.aload_n 0, 1) := by decide +kernel
theorem dX1_timesIn_11 : decode cX1_timesIn 11 = .ok (.getfield 15, 3) := by decide +kernel
theorem dX1_timesIn_14 : decode cX1_timesIn 14 = .ok (.invokevirtual 49, 3) := by decide +kernel
theorem dX1_timesIn_17 : decode cX1_timesIn 17 = .ok (.ireturn, 1) := by decide +kernel
theorem dX1_timesIn_18 : decode cX1_timesIn 18 = .ok (.iconst 0, 1) := by decide +kernel
theorem dX1_timesIn_19 : decode cX1_timesIn 19 = .ok (.istore_n 2, 1) := by decide +kernel
theorem dX1_timesIn_20 : decode cX1_timesIn 20 = .ok (.iconst 0, 1) := by decide +kernel
theorem dX1_timesIn_21 : decode cX1_timesIn 21 = .ok (.istore_n 3, 1) := by decide +kernel
theorem dX1_timesIn_22 : decode cX1_timesIn 22 = .ok (.iload_n 3, 1) := by decide +kernel
theorem dX1_timesIn_23 : decode cX1_timesIn 23 = .ok (.aload_n 1, 1) := by decide +kernel
theorem dX1_timesIn_24 : decode cX1_timesIn 24 = .ok (.getfield 55, 3) := by decide +kernel
theorem dX1_timesIn_27 : decode cX1_timesIn 27 = .ok (.if_icmp .ge 76, 3) := by decide +kernel
theorem dX1_timesIn_30 : decode cX1_timesIn 30 = .ok (.aload_n 1, 1) := by decide +kernel
theorem dX1_timesIn_31 : decode cX1_timesIn 31 = .ok (.getfield 58, 3) := by decide +kernel
theorem dX1_timesIn_34 : decode cX1_timesIn 34 = .ok (.iload_n 3, 1) := by decide +kernel
theorem dX1_timesIn_35 : decode cX1_timesIn 35 = .ok (.invokevirtual 62, 3) := by decide +kernel
theorem dX1_timesIn_38 : decode cX1_timesIn 38 = .ok (.aload_n 0, 1) := by decide +kernel
theorem dX1_timesIn_39 : decode cX1_timesIn 39 = .ok (.getfield 15, 3) := by decide +kernel
theorem dX1_timesIn_42 : decode cX1_timesIn 42 = .ok (.if_icmp .ne 55, 3) := by decide +kernel
theorem dX1_timesIn_45 : decode cX1_timesIn 45 = .ok (.aload_n 1, 1) := by decide +kernel
theorem dX1_timesIn_46 : decode cX1_timesIn 46 = .ok (.iload_n 3, 1) := by decide +kernel
theorem dX1_timesIn_47 : decode cX1_timesIn 47 = .ok (.invokevirtual 65, 3) := by decide +kernel
theorem dX1_timesIn_50 : decode cX1_timesIn 50 = .ok (.ifCond .ne 6, 3) := by decide +kernel
theorem dX1_timesIn_53 : decode cX1_timesIn 53 = .ok (.goto 44, 3) := by decide +kernel
theorem dX1_timesIn_56 : decode cX1_timesIn 56 = .ok (.iconst 0, 1) := by decide +kernel
theorem dX1_timesIn_57 : decode cX1_timesIn 57 = .ok (.istore 4, 2) := by decide +kernel
theorem dX1_timesIn_59 : decode cX1_timesIn 59 = .ok (.iload 4, 2) := by decide +kernel
theorem dX1_timesIn_61 : decode cX1_timesIn 61 = .ok (.aload_n 1, 1) := by decide +kernel
theorem dX1_timesIn_62 : decode cX1_timesIn 62 = .ok (.getfield 55, 3) := by decide +kernel
theorem dX1_timesIn_65 : decode cX1_timesIn 65 = .ok (.if_icmp .ge 32, 3) := by decide +kernel
theorem dX1_timesIn_68 : decode cX1_timesIn 68 = .ok (.aload_n 0, 1) := by decide +kernel
theorem dX1_timesIn_69 : decode cX1_timesIn 69 = .ok (.aload_n 1, 1) := by decide +kernel
theorem dX1_timesIn_70 : decode cX1_timesIn 70 = .ok (.iload_n 3, 1) := by decide +kernel
theorem dX1_timesIn_71 : decode cX1_timesIn 71 = .ok (.iload 4, 2) := by decide +kernel
theorem dX1_timesIn_73 : decode cX1_timesIn 73 = .ok (.invokevirtual 68, 3) := by decide +kernel
theorem dX1_timesIn_76 : decode cX1_timesIn 76 = .ok (.ifCond .eq 15, 3) := by decide +kernel
theorem dX1_timesIn_79 : decode cX1_timesIn 79 = .ok (.aload_n 1, 1) := by decide +kernel
theorem dX1_timesIn_80 : decode cX1_timesIn 80 = .ok (.iload 4, 2) := by decide +kernel
theorem dX1_timesIn_82 : decode cX1_timesIn 82 = .ok (.invokevirtual 65, 3) := by decide +kernel
theorem dX1_timesIn_85 : decode cX1_timesIn 85 = .ok (.ifCond .eq 6, 3) := by decide +kernel
theorem dX1_timesIn_88 : decode cX1_timesIn 88 = .ok (.iinc 2 1, 3) := by decide +kernel
theorem dX1_timesIn_91 : decode cX1_timesIn 91 = .ok (.iinc 4 1, 3) := by decide +kernel
theorem dX1_timesIn_94 : decode cX1_timesIn 94 = .ok (.goto (-35), 3) := by decide +kernel
theorem dX1_timesIn_97 : decode cX1_timesIn 97 = .ok (.iinc 3 1, 3) := by decide +kernel
theorem dX1_timesIn_100 : decode cX1_timesIn 100 = .ok (.goto (-78), 3) := by decide +kernel
theorem dX1_timesIn_103 : decode cX1_timesIn 103 = .ok (.iload_n 2, 1) := by decide +kernel
theorem dX1_timesIn_104 : decode cX1_timesIn 104 = .ok (.ireturn, 1) := by decide +kernel
theorem dX1_isCouple_0 : decode cX1_isCouple 0 = .ok (.aload_n 1, 1) := by decide +kernel
theorem dX1_isCouple_1 : decode cX1_isCouple 1 = .ok (.getfield 58, 3) := by decide +kernel
theorem dX1_isCouple_4 : decode cX1_isCouple 4 = .ok (.iload_n 3, 1) := by decide +kernel
theorem dX1_isCouple_5 : decode cX1_isCouple 5 = .ok (.invokevirtual 62, 3) := by decide +kernel
theorem dX1_isCouple_8 : decode cX1_isCouple 8 = .ok (.aload_n 0, 1) := by decide +kernel
theorem dX1_isCouple_9 : decode cX1_isCouple 9 = .ok (.getfield 19, 3) := by decide +kernel
theorem dX1_isCouple_12 : decode cX1_isCouple 12 = .ok (.if_icmp .eq 5, 3) := by decide +kernel
theorem dX1_isCouple_15 : decode cX1_isCouple 15 = .ok (.iconst 0, 1) := by decide +kernel
theorem dX1_isCouple_16 : decode cX1_isCouple 16 = .ok (.ireturn, 1) := by decide +kernel
theorem dX1_isCouple_17 : decode cX1_isCouple 17 = .ok (.aload_n 1, 1) := by decide +kernel
theorem dX1_isCouple_18 : decode cX1_isCouple 18 = .ok (.getfield 79, 3) := by decide +kernel
theorem dX1_isCouple_21 : decode cX1_isCouple 21 = .ok (.iload_n 3, 1) := by decide +kernel
theorem dX1_isCouple_22 : decode cX1_isCouple 22 = .ok (.invokevirtual 62, 3) := by decide +kernel
theorem dX1_isCouple_25 : decode cX1_isCouple 25 = .ok (.aload_n 1, 1) := by decide +kernel
theorem dX1_isCouple_26 : decode cX1_isCouple 26 = .ok (.getfield 79, 3) := by decide +kernel
theorem dX1_isCouple_29 : decode cX1_isCouple 29 = .ok (.iload_n 2, 1) := by decide +kernel
theorem dX1_isCouple_30 : decode cX1_isCouple 30 = .ok (.invokevirtual 62, 3) := by decide +kernel
theorem dX1_isCouple_33 : decode cX1_isCouple 33 = .ok (.isub, 1) := by decide +kernel
theorem dX1_isCouple_34 : decode cX1_isCouple 34 = .ok (.istore 4, 2) := by decide +kernel
theorem dX1_isCouple_36 : decode cX1_isCouple 36 = .ok (.aload_n 0, 1) := by decide +kernel
theorem dX1_isCouple_37 : decode cX1_isCouple 37 = .ok (.getfield 9, 3) := by decide +kernel
theorem dX1_isCouple_40 : decode cX1_isCouple 40 = .ok (.bipush 112, 2) := by decide +kernel
theorem dX1_isCouple_42 : decode cX1_isCouple 42 = .ok (.if_icmp .ne 15, 3) := by decide +kernel
theorem dX1_isCouple_45 : decode cX1_isCouple 45 = .ok (.iload 4, 2) := by decide +kernel
theorem dX1_isCouple_47 : decode cX1_isCouple 47 = .ok (.iconst 1, 1) := by decide +kernel
theorem dX1_isCouple_48 : decode cX1_isCouple 48 = .ok (.if_icmp .ne 7, 3) := by decide +kernel
theorem dX1_isCouple_51 : decode cX1_isCouple 51 = .ok (.iconst 1, 1) := by decide +kernel
theorem dX1_isCouple_52 : decode cX1_isCouple 52 = .ok (.goto 4, 3) := by decide +kernel
theorem dX1_isCouple_55 : decode cX1_isCouple 55 = .ok (.iconst 0, 1) := by decide +kernel
theorem dX1_isCouple_56 : decode cX1_isCouple 56 = .ok (.ireturn, 1) := by decide +kernel
theorem dX1_isCouple_57 : decode cX1_isCouple 57 = .ok (.iload 4, 2) := by decide +kernel
theorem dX1_isCouple_59 : decode cX1_isCouple 59 = .ok (.ifCond .eq 26, 3) := by decide +kernel
theorem dX1_isCouple_62 : decode cX1_isCouple 62 = .ok (.iload 4, 2) := by decide +kernel
theorem dX1_isCouple_64 : decode cX1_isCouple 64 = .ok (.aload_n 0, 1) := by decide +kernel
theorem dX1_isCouple_65 : decode cX1_isCouple 65 = .ok (.getfield 22, 3) := by decide +kernel
theorem dX1_isCouple_68 : decode cX1_isCouple 68 = .ok (.ineg, 1) := by decide +kernel
theorem dX1_isCouple_69 : decode cX1_isCouple 69 = .ok (.if_icmp .lt 16, 3) := by decide +kernel
theorem dX1_isCouple_72 : decode cX1_isCouple 72 = .ok (.iload 4, 2) := by decide +kernel
theorem dX1_isCouple_74 : decode cX1_isCouple 74 = .ok (.aload_n 0, 1) := by decide +kernel
theorem dX1_isCouple_75 : decode cX1_isCouple 75 = .ok (.getfield 22, 3) := by decide +kernel
theorem dX1_isCouple_78 : decode cX1_isCouple 78 = .ok (.if_icmp .gt 7, 3) := by decide +kernel
theorem dX1_isCouple_81 : decode cX1_isCouple 81 = .ok (.iconst 1, 1) := by decide +kernel
theorem dX1_isCouple_82 : decode cX1_isCouple 82 = .ok (.goto 4, 3) := by decide +kernel
theorem dX1_isCouple_85 : decode cX1_isCouple 85 = .ok (.iconst 0, 1) := by decide +kernel
theorem dX1_isCouple_86 : decode cX1_isCouple 86 = .ok (.ireturn, 1) := by decide +kernel
theorem dX1_scoreFor_0 : decode cX1_scoreFor 0 = .ok (.iload 4, 2) := by decide +kernel
theorem dX1_scoreFor_2 : decode cX1_scoreFor 2 = .ok (.iconst 1, 1) := by decide +kernel
theorem dX1_scoreFor_3 : decode cX1_scoreFor 3 = .ok (.iadd, 1) := by decide +kernel
theorem dX1_scoreFor_4 : decode cX1_scoreFor 4 = .ok (.iload_n 2, 1) := by decide +kernel
theorem dX1_scoreFor_5 : decode cX1_scoreFor 5 = .ok (.iconst 4, 1) := by decide +kernel
theorem dX1_scoreFor_6 : decode cX1_scoreFor 6 = .ok (.iadd, 1) := by decide +kernel
theorem dX1_scoreFor_7 : decode cX1_scoreFor 7 = .ok (.imul, 1) := by decide +kernel
theorem dX1_scoreFor_8 : decode cX1_scoreFor 8 = .ok (.istore 5, 2) := by decide +kernel
theorem dX1_scoreFor_10 : decode cX1_scoreFor 10 = .ok (.iload 5, 2) := by decide +kernel
theorem dX1_scoreFor_12 : decode cX1_scoreFor 12 = .ok (.ifCond .gt 5, 3) := by decide +kernel
theorem dX1_scoreFor_15 : decode cX1_scoreFor 15 = .ok (.iconst 0, 1) := by decide +kernel
theorem dX1_scoreFor_16 : decode cX1_scoreFor 16 = .ok (.ireturn, 1) := by decide +kernel
theorem dX1_scoreFor_17 : decode cX1_scoreFor 17 = .ok (.bipush 100, 2) := by decide +kernel
theorem dX1_scoreFor_19 : decode cX1_scoreFor 19 = .ok (.iload_n 1, 1) := by decide +kernel
theorem dX1_scoreFor_20 : decode cX1_scoreFor 20 = .ok (.imul, 1) := by decide +kernel
theorem dX1_scoreFor_21 : decode cX1_scoreFor 21 = .ok (.iload_n 3, 1) := by decide +kernel
theorem dX1_scoreFor_22 : decode cX1_scoreFor 22 = .ok (.iconst 1, 1) := by decide +kernel
theorem dX1_scoreFor_23 : decode cX1_scoreFor 23 = .ok (.iadd, 1) := by decide +kernel
theorem dX1_scoreFor_24 : decode cX1_scoreFor 24 = .ok (.imul, 1) := by decide +kernel
theorem dX1_scoreFor_25 : decode cX1_scoreFor 25 = .ok (.iload 5, 2) := by decide +kernel
theorem dX1_scoreFor_27 : decode cX1_scoreFor 27 = .ok (.idiv, 1) := by decide +kernel
theorem dX1_scoreFor_28 : decode cX1_scoreFor 28 = .ok (.aload_n 0, 1) := by decide +kernel
theorem dX1_scoreFor_29 : decode cX1_scoreFor 29 = .ok (.getfield 25, 3) := by decide +kernel
theorem dX1_scoreFor_32 : decode cX1_scoreFor 32 = .ok (.imul, 1) := by decide +kernel
theorem dX1_scoreFor_33 : decode cX1_scoreFor 33 = .ok (.ireturn, 1) := by decide +kernel
theorem dX1_joinScores_0 : decode cX1_joinScores 0 = .ok (.iload_n 1, 1) := by decide +kernel
theorem dX1_joinScores_1 : decode cX1_joinScores 1 = .ok (.iconst (-1), 1) := by decide +kernel
theorem dX1_joinScores_2 : decode cX1_joinScores 2 = .ok (.if_icmp .eq 12, 3) := by decide +kernel
theorem dX1_joinScores_5 : decode cX1_joinScores 5 = .ok (.iload_n 2, 1) := by decide +kernel
theorem dX1_joinScores_6 : decode cX1_joinScores 6 = .ok (.iconst (-1), 1) := by decide +kernel
theorem dX1_joinScores_7 : decode cX1_joinScores 7 = .ok (.if_icmp .eq 7, 3) := by decide +kernel
theorem dX1_joinScores_10 : decode cX1_joinScores 10 = .ok (.iconst 1, 1) := by decide +kernel
theorem dX1_joinScores_11 : decode cX1_joinScores 11 = .ok (.goto 4, 3) := by decide +kernel
theorem dX1_joinScores_14 : decode cX1_joinScores 14 = .ok (.iconst 0, 1) := by decide +kernel
theorem dX1_joinScores_15 : decode cX1_joinScores 15 = .ok (.istore_n 3, 1) := by decide +kernel
theorem dX1_joinScores_16 : decode cX1_joinScores 16 = .ok (.aload_n 0, 1) := by decide +kernel
theorem dX1_joinScores_17 : decode cX1_joinScores 17 = .ok (.getfield 9, 3) := by decide +kernel
theorem dX1_joinScores_20 : decode cX1_joinScores 20 = .ok (.bipush 120, 2) := by decide +kernel
theorem dX1_joinScores_22 : decode cX1_joinScores 22 = .ok (.if_icmp .ne 14, 3) := by decide +kernel
theorem dX1_joinScores_25 : decode cX1_joinScores 25 = .ok (.iload_n 2, 1) := by decide +kernel
theorem dX1_joinScores_26 : decode cX1_joinScores 26 = .ok (.iconst (-1), 1) := by decide +kernel
theorem dX1_joinScores_27 : decode cX1_joinScores 27 = .ok (.if_icmp .ne 7, 3) := by decide +kernel
theorem dX1_joinScores_30 : decode cX1_joinScores 30 = .ok (.iload_n 1, 1) := by decide +kernel
theorem dX1_joinScores_31 : decode cX1_joinScores 31 = .ok (.goto 4, 3) := by decide +kernel
theorem dX1_joinScores_34 : decode cX1_joinScores 34 = .ok (.iconst (-1), 1) := by decide +kernel
theorem dX1_joinScores_35 : decode cX1_joinScores 35 = .ok (.ireturn, 1) := by decide +kernel
theorem dX1_joinScores_36 : decode cX1_joinScores 36 = .ok (.iload_n 3, 1) := by decide +kernel
theorem dX1_joinScores_37 : decode cX1_joinScores 37 = .ok (.ifCond .eq 7, 3) := by decide +kernel
theorem dX1_joinScores_40 : decode cX1_joinScores 40 = .ok (.iload_n 1, 1) := by decide +kernel
theorem dX1_joinScores_41 : decode cX1_joinScores 41 = .ok (.iload_n 2, 1) := by decide +kernel
theorem dX1_joinScores_42 : decode cX1_joinScores 42 = .ok (.iadd, 1) := by decide +kernel
theorem dX1_joinScores_43 : decode cX1_joinScores 43 = .ok (.ireturn, 1) := by decide +kernel
theorem dX1_joinScores_44 : decode cX1_joinScores 44 = .ok (.aload_n 0, 1) := by decide +kernel
theorem dX1_joinScores_45 : decode cX1_joinScores 45 = .ok (.getfield 9, 3) := by decide +kernel
theorem dX1_joinScores_48 : decode cX1_joinScores 48 = .ok (.bipush 97, 2) := by decide +kernel
theorem dX1_joinScores_50 : decode cX1_joinScores 50 = .ok (.if_icmp .ne 5, 3) := by decide +kernel
theorem dX1_joinScores_53 : decode cX1_joinScores 53 = .ok (.iconst (-1), 1) := by decide +kernel
theorem dX1_joinScores_54 : decode cX1_joinScores 54 = .ok (.ireturn, 1) := by decide +kernel
theorem dX1_joinScores_55 : decode cX1_joinScores 55 = .ok (.aload_n 0, 1) := by decide +kernel
theorem dX1_joinScores_56 : decode cX1_joinScores 56 = .ok (.getfield 9, 3) := by decide +kernel
theorem dX1_joinScores_59 : decode cX1_joinScores 59 = .ok (.bipush 105, 2) := by decide +kernel
theorem dX1_joinScores_61 : decode cX1_joinScores 61 = .ok (.if_icmp .ne 5, 3) := by decide +kernel
theorem dX1_joinScores_64 : decode cX1_joinScores 64 = .ok (.iload_n 1, 1) := by decide +kernel
theorem dX1_joinScores_65 : decode cX1_joinScores 65 = .ok (.ireturn, 1) := by decide +kernel
theorem dX1_joinScores_66 : decode cX1_joinScores 66 = .ok (.iload_n 1, 1) := by decide +kernel
theorem dX1_joinScores_67 : decode cX1_joinScores 67 = .ok (.iconst (-1), 1) := by decide +kernel
theorem dX1_joinScores_68 : decode cX1_joinScores 68 = .ok (.if_icmp .ne 7, 3) := by decide +kernel
theorem dX1_joinScores_71 : decode cX1_joinScores 71 = .ok (.iload_n 2, 1) := by decide +kernel
theorem dX1_joinScores_72 : decode cX1_joinScores 72 = .ok (.goto 4, 3) := by decide +kernel
theorem dX1_joinScores_75 : decode cX1_joinScores 75 = .ok (.iload_n 1, 1) := by decide +kernel
theorem dX1_joinScores_76 : decode cX1_joinScores 76 = .ok (.ireturn, 1) := by decide +kernel
theorem dX2_init_0 : decode cX2_init 0 = .ok (.aload_n 0, 1) := by decide +kernel
theorem dX2_init_1 : decode cX2_init 1 = .ok (.invokespecial 1, 3) := by decide +kernel
theorem dX2_init_4 : decode cX2_init 4 = .ok (.aload_n 0, 1) := by decide +kernel
theorem dX2_init_5 : decode cX2_init 5 = .ok (.iload_n 1, 1) := by decide +kernel
theorem dX2_init_6 : decode cX2_init 6 = .ok (.ifCond .ge 7, 3) := by decide +kernel
theorem dX2_init_9 : decode cX2_init 9 = .ok (.iconst 0, 1) := by decide +kernel
theorem dX2_init_10 : decode cX2_init 10 = .ok (.goto 4, 3) := by decide +kernel
theorem dX2_init_13 : decode cX2_init 13 = .ok (.iload_n 1, 1) := by decide +kernel
theorem dX2_init_14 : decode cX2_init 14 = .ok (.newarray .int, 2) := by decide +kernel
theorem dX2_init_16 : decode cX2_init 16 = .ok (.putfield 7, 3) := by decide +kernel
theorem dX2_init_19 : decode cX2_init 19 = .ok (.return_, 1) := by decide +kernel
theorem dX2_get_0 : decode cX2_get 0 = .ok (.iload_n 1, 1) := by decide +kernel
theorem dX2_get_1 : decode cX2_get 1 = .ok (.ifCond .lt 12, 3) := by decide +kernel
theorem dX2_get_4 : decode cX2_get 4 = .ok (.iload_n 1, 1) := by decide +kernel
theorem dX2_get_5 : decode cX2_get 5 = .ok (.aload_n 0, 1) := by decide +kernel
theorem dX2_get_6 : decode cX2_get 6 = .ok (.getfield 7, 3) := by decide +kernel
theorem dX2_get_9 : decode cX2_get 9 = .ok (.arraylength, 1) := by decide +kernel
theorem dX2_get_10 : decode cX2_get 10 = .ok (.if_icmp .lt 7, 3) := by decide +kernel
theorem dX2_get_13 : decode cX2_get 13 = .ok (.iconst 0, 1) := by decide +kernel
theorem dX2_get_14 : decode cX2_get 14 = .ok (.goto 9, 3) := by decide +kernel
theorem dX2_get_17 : decode cX2_get 17 = .ok (.aload_n 0, 1) := by decide +kernel
theorem dX2_get_18 : decode cX2_get 18 = .ok (.getfield 7, 3) := by decide +kernel
theorem dX2_get_21 : decode cX2_get 21 = .ok (.iload_n 1, 1) := by decide +kernel
theorem dX2_get_22 : decode cX2_get 22 = .ok (.iaload, 1) := by decide +kernel
theorem dX2_get_23 : decode cX2_get 23 = .ok (.ireturn, 1) := by decide +kernel
theorem dX2_put_0 : decode cX2_put 0 = .ok (.iload_n 1, 1) := by decide +kernel
theorem dX2_put_1 : decode cX2_put 1 = .ok (.ifCond .lt 19, 3) := by decide +kernel
theorem dX2_put_4 : decode cX2_put 4 = .ok (.iload_n 1, 1) := by decide +kernel
theorem dX2_put_5 : decode cX2_put 5 = .ok (.aload_n 0, 1) := by decide +kernel
theorem dX2_put_6 : decode cX2_put 6 = .ok (.getfield 7, 3) := by decide +kernel
theorem dX2_put_9 : decode cX2_put 9 = .ok (.arraylength, 1) := by decide +kernel
theorem dX2_put_10 : decode cX2_put 10 = .ok (.if_icmp .ge 10, 3) := by decide +kernel
theorem dX2_put_13 : decode cX2_put 13 = .ok (.aload_n 0, 1) := by decide +kernel
theorem dX2_put_14 : decode cX2_put 14 = .ok (.getfield 7, 3) := by decide +kernel
theorem dX2_put_17 : decode cX2_put 17 = .ok (.iload_n 1, 1) := by decide +kernel
theorem dX2_put_18 : decode cX2_put 18 = .ok (.iload_n 2, 1) := by decide +kernel
theorem dX2_put_19 : decode cX2_put 19 = .ok (.iastore, 1) := by decide +kernel
theorem dX2_put_20 : decode cX2_put 20 = .ok (.return_, 1) := by decide +kernel
theorem dX2_fill_0 : decode cX2_fill 0 = .ok (.iconst 0, 1) := by decide +kernel
theorem dX2_fill_1 : decode cX2_fill 1 = .ok (.istore_n 2, 1) := by decide +kernel
theorem dX2_fill_2 : decode cX2_fill 2 = .ok (.iload_n 2, 1) := by decide +kernel
theorem dX2_fill_3 : decode cX2_fill 3 = .ok (.aload_n 0, 1) := by decide +kernel
theorem dX2_fill_4 : decode cX2_fill 4 = .ok (.getfield 7, 3) := by decide +kernel
theorem dX2_fill_7 : decode cX2_fill 7 = .ok (.arraylength, 1) := by decide +kernel
theorem dX2_fill_8 : decode cX2_fill 8 = .ok (.if_icmp .ge 16, 3) := by decide +kernel
theorem dX2_fill_11 : decode cX2_fill 11 = .ok (.aload_n 0, 1) := by decide +kernel
theorem dX2_fill_12 : decode cX2_fill 12 = .ok (.getfield 7, 3) := by decide +kernel
theorem dX2_fill_15 : decode cX2_fill 15 = .ok (.iload_n 2, 1) := by decide +kernel
theorem dX2_fill_16 : decode cX2_fill 16 = .ok (.iload_n 1, 1) := by decide +kernel
theorem dX2_fill_17 : decode cX2_fill 17 = .ok (.iastore, 1) := by decide +kernel
theorem dX2_fill_18 : decode cX2_fill 18 = .ok (.iinc 2 1, 3) := by decide +kernel
theorem dX2_fill_21 : decode cX2_fill 21 = .ok (.goto (-19), 3) := by decide +kernel
theorem dX2_fill_24 : decode cX2_fill 24 = .ok (.return_, 1) := by decide +kernel
theorem dX2_copyFrom_0 : decode cX2_copyFrom 0 = .ok (.iconst 0, 1) := by decide +kernel
theorem dX2_copyFrom_1 : decode cX2_copyFrom 1 = .ok (.istore_n 2, 1) := by decide +kernel
theorem dX2_copyFrom_2 : decode cX2_copyFrom 2 = .ok (.iload_n 2, 1) := by decide +kernel
theorem dX2_copyFrom_3 : decode cX2_copyFrom 3 = .ok (.aload_n 0, 1) := by decide +kernel
theorem dX2_copyFrom_4 : decode cX2_copyFrom 4 = .ok (.getfield 7, 3) := by decide +kernel
theorem dX2_copyFrom_7 : decode cX2_copyFrom 7 = .ok (.arraylength, 1) := by decide +kernel
theorem dX2_copyFrom_8 : decode cX2_copyFrom 8 = .ok (.if_icmp .ge 20, 3) := by decide +kernel
theorem dX2_copyFrom_11 : decode cX2_copyFrom 11 = .ok (.aload_n 0, 1) := by decide +kernel
theorem dX2_copyFrom_12 : decode cX2_copyFrom 12 = .ok (.getfield 7, 3) := by decide +kernel
theorem dX2_copyFrom_15 : decode cX2_copyFrom 15 = .ok (.iload_n 2, 1) := by decide +kernel
theorem dX2_copyFrom_16 : decode cX2_copyFrom 16 = .ok (.aload_n 1, 1) := by decide +kernel
theorem dX2_copyFrom_17 : decode cX2_copyFrom 17 = .ok (.iload_n 2, 1) := by decide +kernel
theorem dX2_copyFrom_18 : decode cX2_copyFrom 18 = .ok (.invokevirtual 13, 3) := by decide +kernel
theorem dX2_copyFrom_21 : decode cX2_copyFrom 21 = .ok (.iastore, 1) := by decide +kernel
theorem dX2_copyFrom_22 : decode cX2_copyFrom 22 = .ok (.iinc 2 1, 3) := by decide +kernel
theorem dX2_copyFrom_25 : decode cX2_copyFrom 25 = .ok (.goto (-23), 3) := by decide +kernel
theorem dX2_copyFrom_28 : decode cX2_copyFrom 28 = .ok (.return_, 1) := by decide +kernel
theorem dX3_init_0 : decode cX3_init 0 = .ok (.aload_n 0, 1) := by decide +kernel
theorem dX3_init_1 : decode cX3_init 1 = .ok (.invokespecial 3, 3) := by decide +kernel
theorem dX3_init_4 : decode cX3_init 4 = .ok (.aload_n 0, 1) := by decide +kernel
theorem dX3_init_5 : decode cX3_init 5 = .ok (.new 9, 3) := by decide +kernel
theorem dX3_init_8 : decode cX3_init 8 = .ok (.dup, 1) := by decide +kernel
theorem dX3_init_9 : decode cX3_init 9 = .ok (.bipush 40, 2) := by decide +kernel
theorem dX3_init_11 : decode cX3_init 11 = .ok (.invokespecial 11, 3) := by decide +kernel
theorem dX3_init_14 : decode cX3_init 14 = .ok (.putfield 14, 3) := by decide +kernel
theorem dX3_init_17 : decode cX3_init 17 = .ok (.aload_n 0, 1) := by decide +kernel
theorem dX3_init_18 : decode cX3_init 18 = .ok (.new 9, 3) := by decide +kernel
theorem dX3_init_21 : decode cX3_init 21 = .ok (.dup, 1) := by decide +kernel
theorem dX3_init_22 : decode cX3_init 22 = .ok (.bipush 30, 2) := by decide +kernel
theorem dX3_init_24 : decode cX3_init 24 = .ok (.invokespecial 11, 3) := by decide +kernel
theorem dX3_init_27 : decode cX3_init 27 = .ok (.putfield 20, 3) := by decide +kernel
theorem dX3_init_30 : decode cX3_init 30 = .ok (.aload_n 0, 1) := by decide +kernel
theorem dX3_init_31 : decode cX3_init 31 = .ok (.new 9, 3) := by decide +kernel
theorem dX3_init_34 : decode cX3_init 34 = .ok (.dup, 1) := by decide +kernel
theorem dX3_init_35 : decode cX3_init 35 = .ok (.sipush 1200, 3) := by decide +kernel
theorem dX3_init_38 : decode cX3_init 38 = .ok (.invokespecial 11, 3) := by decide +kernel
theorem dX3_init_41 : decode cX3_init 41 = .ok (.putfield 23, 3) := by decide +kernel
theorem dX3_init_44 : decode cX3_init 44 = .ok (.aload_n 0, 1) := by decide +kernel
theorem dX3_init_45 : decode cX3_init 45 = .ok (.new 9, 3) := by decide +kernel
theorem dX3_init_48 : decode cX3_init 48 = .ok (.dup, 1) := by decide +kernel
theorem dX3_init_49 : decode cX3_init 49 = .ok (.bipush 30, 2) := by decide +kernel
theorem dX3_init_51 : decode cX3_init 51 = .ok (.invokespecial 11, 3) := by decide +kernel
theorem dX3_init_54 : decode cX3_init 54 = .ok (.putfield 26, 3) := by decide +kernel
theorem dX3_init_57 : decode cX3_init 57 = .ok (.aload_n 0, 1) := by decide +kernel
theorem dX3_init_58 : decode cX3_init 58 = .ok (.new 9, 3) := by decide +kernel
theorem dX3_init_61 : decode cX3_init 61 = .ok (.dup, 1) := by decide +kernel
theorem dX3_init_62 : decode cX3_init 62 = .ok (.bipush 30, 2) := by decide +kernel
theorem dX3_init_64 : decode cX3_init 64 = .ok (.invokespecial 11, 3) := by decide +kernel
theorem dX3_init_67 : decode cX3_init 67 = .ok (.putfield 29, 3) := by decide +kernel
theorem dX3_init_70 : decode cX3_init 70 = .ok (.aload_n 0, 1) := by decide +kernel
theorem dX3_init_71 : decode cX3_init 71 = .ok (.new 9, 3) := by decide +kernel
theorem dX3_init_74 : decode cX3_init 74 = .ok (.dup, 1) := by decide +kernel
theorem dX3_init_75 : decode cX3_init 75 = .ok (.bipush 12, 2) := by decide +kernel
theorem dX3_init_77 : decode cX3_init 77 = .ok (.invokespecial 11, 3) := by decide +kernel
theorem dX3_init_80 : decode cX3_init 80 = .ok (.putfield 32, 3) := by decide +kernel
theorem dX3_init_83 : decode cX3_init 83 = .ok (.return_, 1) := by decide +kernel
theorem dX3_run_0 : decode cX3_run 0 = .ok (.aload_n 0, 1) := by decide +kernel
theorem dX3_run_1 : decode cX3_run 1 = .ok (.iload 4, 2) := by decide +kernel
theorem dX3_run_3 : decode cX3_run 3 = .ok (.putfield 35, 3) := by decide +kernel
theorem dX3_run_6 : decode cX3_run 6 = .ok (.aload_n 0, 1) := by decide +kernel
theorem dX3_run_7 : decode cX3_run 7 = .ok (.aload_n 2, 1) := by decide +kernel
theorem dX3_run_8 : decode cX3_run 8 = .ok (.iload 4, 2) := by decide +kernel
theorem dX3_run_10 : decode cX3_run 10 = .ok (.iconst 0, 1) := by decide +kernel
theorem dX3_run_11 : decode cX3_run 11 = .ok (.invokevirtual 39, 3) := by decide +kernel
theorem dX3_run_14 : decode cX3_run 14 = .ok (.iconst 0, 1) := by decide +kernel
theorem dX3_run_15 : decode cX3_run 15 = .ok (.istore 6, 2) := by decide +kernel
theorem dX3_run_17 : decode cX3_run 17 = .ok (.iload 6, 2) := by decide +kernel
theorem dX3_run_19 : decode cX3_run 19 = .ok (.iload 4, 2) := by decide +kernel
theorem dX3_run_21 : decode cX3_run 21 = .ok (.if_icmp .gt 87, 3) := by decide +kernel
theorem dX3_run_24 : decode cX3_run 24 = .ok (.iload 6, 2) := by decide +kernel
theorem dX3_run_26 : decode cX3_run 26 = .ok (.aload_n 2, 1) := by decide +kernel
theorem dX3_run_27 : decode cX3_run 27 = .ok (.invokevirtual 43, 3) := by decide +kernel
theorem dX3_run_30 : decode cX3_run 30 = .ok (.if_icmp .ge 78, 3) := by decide +kernel
theorem dX3_run_33 : decode cX3_run 33 = .ok (.aload_n 0, 1) := by decide +kernel
theorem dX3_run_34 : decode cX3_run 34 = .ok (.getfield 14, 3) := by decide +kernel
theorem dX3_run_37 : decode cX3_run 37 = .ok (.iload 6, 2) := by decide +kernel
theorem dX3_run_39 : decode cX3_run 39 = .ok (.invokevirtual 49, 3) := by decide +kernel
theorem dX3_run_42 : decode cX3_run 42 = .ok (.ifCond .ne 6, 3) := by decide +kernel
theorem dX3_run_45 : decode cX3_run 45 = .ok (.goto 57, 3) := by decide +kernel
theorem dX3_run_48 : decode cX3_run 48 = .ok (.aload_n 2, 1) := by decide +kernel
theorem dX3_run_49 : decode cX3_run 49 = .ok (.iload 6, 2) := by decide +kernel
theorem dX3_run_51 : decode cX3_run 51 = .ok (.invokevirtual 53, 3) := by decide +kernel
theorem dX3_run_54 : decode cX3_run 54 = .ok (.checkcast 56, 3) := by decide +kernel
theorem dX3_run_57 : decode cX3_run 57 = .ok (.invokevirtual 58, 3) := by decide +kernel
theorem dX3_run_60 : decode cX3_run 60 = .ok (.ifCond .eq 23, 3) := by decide +kernel
theorem dX3_run_63 : decode cX3_run 63 = .ok (.aload_n 0, 1) := by decide +kernel
theorem dX3_run_64 : decode cX3_run 64 = .ok (.aload_n 1, 1) := by decide +kernel
theorem dX3_run_65 : decode cX3_run 65 = .ok (.aload_n 2, 1) := by decide +kernel
theorem dX3_run_66 : decode cX3_run 66 = .ok (.iload 6, 2) := by decide +kernel
theorem dX3_run_68 : decode cX3_run 68 = .ok (.invokevirtual 53, 3) := by decide +kernel
theorem dX3_run_71 : decode cX3_run 71 = .ok (.checkcast 56, 3) := by decide +kernel
theorem dX3_run_74 : decode cX3_run 74 = .ok (.iload 6, 2) := by decide +kernel
theorem dX3_run_76 : decode cX3_run 76 = .ok (.aload_n 3, 1) := by decide +kernel
theorem dX3_run_77 : decode cX3_run 77 = .ok (.invokevirtual 62, 3) := by decide +kernel
theorem dX3_run_80 : decode cX3_run 80 = .ok (.goto 22, 3) := by decide +kernel
theorem dX3_run_83 : decode cX3_run 83 = .ok (.aload_n 0, 1) := by decide +kernel
theorem dX3_run_84 : decode cX3_run 84 = .ok (.aload_n 1, 1) := by decide +kernel
theorem dX3_run_85 : decode cX3_run 85 = .ok (.invokevirtual 43, 3) := by decide +kernel
theorem dX3_run_88 : decode cX3_run 88 = .ok (.aload_n 2, 1) := by decide +kernel
theorem dX3_run_89 : decode cX3_run 89 = .ok (.iload 6, 2) := by decide +kernel
theorem dX3_run_91 : decode cX3_run 91 = .ok (.invokevirtual 53, 3) := by decide +kernel
theorem dX3_run_94 : decode cX3_run 94 = .ok (.checkcast 56, 3) := by decide +kernel
theorem dX3_run_97 : decode cX3_run 97 = .ok (.iload 6, 2) := by decide +kernel
theorem dX3_run_99 : decode cX3_run 99 = .ok (.invokevirtual 66, 3) := by decide +kernel
theorem dX3_run_102 : decode cX3_run 102 = .ok (.iinc 6 1, 3) := by decide +kernel
theorem dX3_run_105 : decode cX3_run 105 = .ok (.goto (-88), 3) := by decide +kernel
theorem dX3_run_108 : decode cX3_run 108 = .ok (.aload_n 0, 1) := by decide +kernel
theorem dX3_run_109 : decode cX3_run 109 = .ok (.aload_n 1, 1) := by decide +kernel
theorem dX3_run_110 : decode cX3_run 110 = .ok (.iload 5, 2) := by decide +kernel
theorem dX3_run_112 : decode cX3_run 112 = .ok (.invokevirtual 70, 3) := by decide +kernel
theorem dX3_run_115 : decode cX3_run 115 = .ok (.return_, 1) := by decide +kernel
theorem dX3_scoreOf_0 : decode cX3_scoreOf 0 = .ok (.aload_n 0, 1) := by decide +kernel
theorem dX3_scoreOf_1 : decode cX3_scoreOf 1 = .ok (.getfield 23, 3) := by decide +kernel
theorem dX3_scoreOf_4 : decode cX3_scoreOf 4 = .ok (.aload_n 0, 1) := by decide +kernel
theorem dX3_scoreOf_5 : decode cX3_scoreOf 5 = .ok (.getfield 35, 3) := by decide +kernel
theorem dX3_scoreOf_8 : decode cX3_scoreOf 8 = .ok (.iload_n 1, 1) := by decide +kernel
theorem dX3_scoreOf_9 : decode cX3_scoreOf 9 = .ok (.invokestatic 74, 3) := by decide +kernel
theorem dX3_scoreOf_12 : decode cX3_scoreOf 12 = .ok (.invokevirtual 49, 3) := by decide +kernel
theorem dX3_scoreOf_15 : decode cX3_scoreOf 15 = .ok (.ireturn, 1) := by decide +kernel
theorem dX3_gatherParts_0 : decode cX3_gatherParts 0 = .ok (.aload_n 0, 1) := by decide +kernel
theorem dX3_gatherParts_1 : decode cX3_gatherParts 1 = .ok (.getfield 14, 3) := by decide +kernel
theorem dX3_gatherParts_4 : decode cX3_gatherParts 4 = .ok (.iconst 0, 1) := by decide +kernel
theorem dX3_gatherParts_5 : decode cX3_gatherParts 5 = .ok (.invokevirtual 78, 3) := by decide +kernel
theorem dX3_gatherParts_8 : decode cX3_gatherParts 8 = .ok (.aload_n 0, 1) := by decide +kernel
theorem dX3_gatherParts_9 : decode cX3_gatherParts 9 = .ok (.getfield 14, 3) := by decide +kernel
theorem dX3_gatherParts_12 : decode cX3_gatherParts 12 = .ok (.iload_n 2, 1) := by decide +kernel
theorem dX3_gatherParts_13 : decode cX3_gatherParts 13 = .ok (.iconst 1, 1) := by decide +kernel
theorem dX3_gatherParts_14 : decode cX3_gatherParts 14 = .ok (.invokevirtual 85, 3) := by decide +kernel
theorem dX3_gatherParts_17 : decode cX3_gatherParts 17 = .ok (.iload_n 2, 1) := by decide +kernel
theorem dX3_gatherParts_18 : decode cX3_gatherParts 18 = .ok (.istore 4, 2) := by decide +kernel
theorem dX3_gatherParts_20 : decode cX3_gatherParts 20 = .ok (.iload 4, 2) := by decide +kernel
theorem dX3_gatherParts_22 : decode cX3_gatherParts 22 = .ok (.ifCond .lt 48, 3) := by decide +kernel
theorem dX3_gatherParts_25 : decode cX3_gatherParts 25 = .ok (.aload_n 0, 1) := by decide +kernel
theorem dX3_gatherParts_26 : decode cX3_gatherParts 26 = .ok (.getfield 14, 3) := by decide +kernel
theorem dX3_gatherParts_29 : decode cX3_gatherParts 29 = .ok (.iload 4, 2) := by decide +kernel
theorem dX3_gatherParts_31 : decode cX3_gatherParts 31 = .ok (.invokevirtual 49, 3) := by decide +kernel
theorem dX3_gatherParts_34 : decode cX3_gatherParts 34 = .ok (.iconst 1, 1) := by decide +kernel
theorem dX3_gatherParts_35 : decode cX3_gatherParts 35 = .ok (.if_icmp .ne 29, 3) := by decide +kernel
theorem dX3_gatherParts_38 : decode cX3_gatherParts 38 = .ok (.iload 4, 2) := by decide +kernel
theorem dX3_gatherParts_40 : decode cX3_gatherParts 40 = .ok (.aload_n 1, 1) := by decide +kernel
theorem dX3_gatherParts_41 : decode cX3_gatherParts 41 = .ok (.invokevirtual 43, 3) := by decide +kernel
theorem dX3_gatherParts_44 : decode cX3_gatherParts 44 = .ok (.if_icmp .ge 20, 3) := by decide +kernel
theorem dX3_gatherParts_47 : decode cX3_gatherParts 47 = .ok (.aload_n 1, 1) := by decide +kernel
theorem dX3_gatherParts_48 : decode cX3_gatherParts 48 = .ok (.iload 4, 2) := by decide +kernel
theorem dX3_gatherParts_50 : decode cX3_gatherParts 50 = .ok (.invokevirtual 53, 3) := by decide +kernel
theorem dX3_gatherParts_53 : decode cX3_gatherParts 53 = .ok (.checkcast 56, 3) := by decide +kernel
theorem dX3_gatherParts_56 : decode cX3_gatherParts 56 = .ok (.aload_n 0, 1) := by decide +kernel
theorem dX3_gatherParts_57 : decode cX3_gatherParts 57 = .ok (.getfield 14, 3) := by decide +kernel
theorem dX3_gatherParts_60 : decode cX3_gatherParts 60 = .ok (.iload_n 3, 1) := by decide +kernel
theorem dX3_gatherParts_61 : decode cX3_gatherParts 61 = .ok (.invokevirtual 89, 3) := by decide +kernel
theorem dX3_gatherParts_64 : decode cX3_gatherParts 64 = .ok (.iinc 4 (-1), 3) := by decide +kernel
theorem dX3_gatherParts_67 : decode cX3_gatherParts 67 = .ok (.goto (-47), 3) := by decide +kernel
theorem dX3_gatherParts_70 : decode cX3_gatherParts 70 = .ok (.return_, 1) := by decide +kernel
theorem dX3_scoreWords_0 : decode cX3_scoreWords 0 = .ok (.iconst 0, 1) := by decide +kernel
theorem dX3_scoreWords_1 : decode cX3_scoreWords 1 = .ok (.istore 5, 2) := by decide +kernel
theorem dX3_scoreWords_3 : decode cX3_scoreWords 3 = .ok (.iconst 0, 1) := by decide +kernel
theorem dX3_scoreWords_4 : decode cX3_scoreWords 4 = .ok (.istore 6, 2) := by decide +kernel
theorem dX3_scoreWords_6 : decode cX3_scoreWords 6 = .ok (.iload 6, 2) := by decide +kernel
theorem dX3_scoreWords_8 : decode cX3_scoreWords 8 = .ok (.aload_n 1, 1) := by decide +kernel
theorem dX3_scoreWords_9 : decode cX3_scoreWords 9 = .ok (.invokevirtual 43, 3) := by decide +kernel
theorem dX3_scoreWords_12 : decode cX3_scoreWords 12 = .ok (.if_icmp .ge 63, 3) := by decide +kernel
theorem dX3_scoreWords_15 : decode cX3_scoreWords 15 = .ok (.aload_n 0, 1) := by decide +kernel
theorem dX3_scoreWords_16 : decode cX3_scoreWords 16 = .ok (.getfield 20, 3) := by decide +kernel
theorem dX3_scoreWords_19 : decode cX3_scoreWords 19 = .ok (.iload 6, 2) := by decide +kernel
theorem dX3_scoreWords_21 : decode cX3_scoreWords 21 = .ok (.aload 4, 2) := by decide +kernel
theorem dX3_scoreWords_23 : decode cX3_scoreWords 23 = .ok (.iload 6, 2) := by decide +kernel
theorem dX3_scoreWords_25 : decode cX3_scoreWords 25 = .ok (.invokevirtual 93, 3) := by decide +kernel
theorem dX3_scoreWords_28 : decode cX3_scoreWords 28 = .ok (.ifCond .eq 22, 3) := by decide +kernel
theorem dX3_scoreWords_31 : decode cX3_scoreWords 31 = .ok (.aload_n 2, 1) := by decide +kernel
theorem dX3_scoreWords_32 : decode cX3_scoreWords 32 = .ok (.aload_n 1, 1) := by decide +kernel
theorem dX3_scoreWords_33 : decode cX3_scoreWords 33 = .ok (.iload 6, 2) := by decide +kernel
theorem dX3_scoreWords_35 : decode cX3_scoreWords 35 = .ok (.invokevirtual 53, 3) := by decide +kernel
theorem dX3_scoreWords_38 : decode cX3_scoreWords 38 = .ok (.checkcast 99, 3) := by decide +kernel
theorem dX3_scoreWords_41 : decode cX3_scoreWords 41 = .ok (.getfield 101, 3) := by decide +kernel
theorem dX3_scoreWords_44 : decode cX3_scoreWords 44 = .ok (.invokevirtual 105, 3) := by decide +kernel
theorem dX3_scoreWords_47 : decode cX3_scoreWords 47 = .ok (.goto 4, 3) := by decide +kernel
theorem dX3_scoreWords_50 : decode cX3_scoreWords 50 = .ok (.iconst 0, 1) := by decide +kernel
theorem dX3_scoreWords_51 : decode cX3_scoreWords 51 = .ok (.invokevirtual 85, 3) := by decide +kernel
theorem dX3_scoreWords_54 : decode cX3_scoreWords 54 = .ok (.aload_n 0, 1) := by decide +kernel
theorem dX3_scoreWords_55 : decode cX3_scoreWords 55 = .ok (.getfield 20, 3) := by decide +kernel
theorem dX3_scoreWords_58 : decode cX3_scoreWords 58 = .ok (.iload 6, 2) := by decide +kernel
theorem dX3_scoreWords_60 : decode cX3_scoreWords 60 = .ok (.invokevirtual 49, 3) := by decide +kernel
theorem dX3_scoreWords_63 : decode cX3_scoreWords 63 = .ok (.ifCond .le 6, 3) := by decide +kernel
theorem dX3_scoreWords_66 : decode cX3_scoreWords 66 = .ok (.iinc 5 1, 3) := by decide +kernel
theorem dX3_scoreWords_69 : decode cX3_scoreWords 69 = .ok (.iinc 6 1, 3) := by decide +kernel
theorem dX3_scoreWords_72 : decode cX3_scoreWords 72 = .ok (.goto (-66), 3) := by decide +kernel
theorem dX3_scoreWords_75 : decode cX3_scoreWords 75 = .ok (.iconst 0, 1) := by decide +kernel
theorem dX3_scoreWords_76 : decode cX3_scoreWords 76 = .ok (.istore 6, 2) := by decide +kernel
theorem dX3_scoreWords_78 : decode cX3_scoreWords 78 = .ok (.iload 6, 2) := by decide +kernel
theorem dX3_scoreWords_80 : decode cX3_scoreWords 80 = .ok (.aload_n 1, 1) := by decide +kernel
theorem dX3_scoreWords_81 : decode cX3_scoreWords 81 = .ok (.invokevirtual 43, 3) := by decide +kernel
theorem dX3_scoreWords_84 : decode cX3_scoreWords 84 = .ok (.if_icmp .ge 78, 3) := by decide +kernel
theorem dX3_scoreWords_87 : decode cX3_scoreWords 87 = .ok (.aload_n 0, 1) := by decide +kernel
theorem dX3_scoreWords_88 : decode cX3_scoreWords 88 = .ok (.getfield 20, 3) := by decide +kernel
theorem dX3_scoreWords_91 : decode cX3_scoreWords 91 = .ok (.iload 6, 2) := by decide +kernel
theorem dX3_scoreWords_93 : decode cX3_scoreWords 93 = .ok (.invokevirtual 49, 3) := by decide +kernel
theorem dX3_scoreWords_96 : decode cX3_scoreWords 96 = .ok (.istore 7, 2) := by decide +kernel
theorem dX3_scoreWords_98 : decode cX3_scoreWords 98 = .ok (.aload_n 1, 1) := by decide +kernel
theorem dX3_scoreWords_99 : decode cX3_scoreWords 99 = .ok (.iload 6, 2) := by decide +kernel
theorem dX3_scoreWords_101 : decode cX3_scoreWords 101 = .ok (.invokevirtual 53, 3) := by decide +kernel
theorem dX3_scoreWords_104 : decode cX3_scoreWords 104 = .ok (.checkcast 99, 3) := by decide +kernel
theorem dX3_scoreWords_107 : decode cX3_scoreWords 107 = .ok (.getfield 101, 3) := by decide +kernel
theorem dX3_scoreWords_110 : decode cX3_scoreWords 110 = .ok (.getfield 109, 3) := by decide +kernel
theorem dX3_scoreWords_113 : decode cX3_scoreWords 113 = .ok (.istore 8, 2) := by decide +kernel
theorem dX3_scoreWords_115 : decode cX3_scoreWords 115 = .ok (.iload 7, 2) := by decide +kernel
theorem dX3_scoreWords_117 : decode cX3_scoreWords 117 = .ok (.ifCond .ne 7, 3) := by decide +kernel
theorem dX3_scoreWords_120 : decode cX3_scoreWords 120 = .ok (.iconst (-1), 1) := by decide +kernel
theorem dX3_scoreWords_121 : decode cX3_scoreWords 121 = .ok (.goto 18, 3) := by decide +kernel
theorem dX3_scoreWords_124 : decode cX3_scoreWords 124 = .ok (.aload_n 2, 1) := by decide +kernel
theorem dX3_scoreWords_125 : decode cX3_scoreWords 125 = .ok (.iload 7, 2) := by decide +kernel
theorem dX3_scoreWords_127 : decode cX3_scoreWords 127 = .ok (.iload 8, 2) := by decide +kernel
theorem dX3_scoreWords_129 : decode cX3_scoreWords 129 = .ok (.aload 4, 2) := by decide +kernel
theorem dX3_scoreWords_131 : decode cX3_scoreWords 131 = .ok (.getfield 114, 3) := by decide +kernel
theorem dX3_scoreWords_134 : decode cX3_scoreWords 134 = .ok (.iload 5, 2) := by decide +kernel
theorem dX3_scoreWords_136 : decode cX3_scoreWords 136 = .ok (.invokevirtual 115, 3) := by decide +kernel
theorem dX3_scoreWords_139 : decode cX3_scoreWords 139 = .ok (.istore 9, 2) := by decide +kernel
theorem dX3_scoreWords_141 : decode cX3_scoreWords 141 = .ok (.aload_n 0, 1) := by decide +kernel
theorem dX3_scoreWords_142 : decode cX3_scoreWords 142 = .ok (.getfield 23, 3) := by decide +kernel
theorem dX3_scoreWords_145 : decode cX3_scoreWords 145 = .ok (.iload_n 3, 1) := by decide +kernel
theorem dX3_scoreWords_146 : decode cX3_scoreWords 146 = .ok (.iload 6, 2) := by decide +kernel
theorem dX3_scoreWords_148 : decode cX3_scoreWords 148 = .ok (.invokestatic 74, 3) := by decide +kernel
theorem dX3_scoreWords_151 : decode cX3_scoreWords 151 = .ok (.iload 9, 2) := by decide +kernel
theorem dX3_scoreWords_153 : decode cX3_scoreWords 153 = .ok (.invokevirtual 85, 3) := by decide +kernel
theorem dX3_scoreWords_156 : decode cX3_scoreWords 156 = .ok (.iinc 6 1, 3) := by decide +kernel
theorem dX3_scoreWords_159 : decode cX3_scoreWords 159 = .ok (.goto (-81), 3) := by decide +kernel
theorem dX3_scoreWords_162 : decode cX3_scoreWords 162 = .ok (.return_, 1) := by decide +kernel
theorem dX3_scoreJoined_0 : decode cX3_scoreJoined 0 = .ok (.iconst 0, 1) := by decide +kernel
theorem dX3_scoreJoined_1 : decode cX3_scoreJoined 1 = .ok (.istore 4, 2) := by decide +kernel
theorem dX3_scoreJoined_3 : decode cX3_scoreJoined 3 = .ok (.iload 4, 2) := by decide +kernel
theorem dX3_scoreJoined_5 : decode cX3_scoreJoined 5 = .ok (.iload_n 1, 1) := by decide +kernel
theorem dX3_scoreJoined_6 : decode cX3_scoreJoined 6 = .ok (.if_icmp .ge 66, 3) := by decide +kernel
theorem dX3_scoreJoined_9 : decode cX3_scoreJoined 9 = .ok (.aload_n 0, 1) := by decide +kernel
theorem dX3_scoreJoined_10 : decode cX3_scoreJoined 10 = .ok (.getfield 23, 3) := by decide +kernel
theorem dX3_scoreJoined_13 : decode cX3_scoreJoined 13 = .ok (.aload_n 2, 1) := by decide +kernel
theorem dX3_scoreJoined_14 : decode cX3_scoreJoined 14 = .ok (.getfield 119, 3) := by decide +kernel
theorem dX3_scoreJoined_17 : decode cX3_scoreJoined 17 = .ok (.iload 4, 2) := by decide +kernel
theorem dX3_scoreJoined_19 : decode cX3_scoreJoined 19 = .ok (.invokestatic 74, 3) := by decide +kernel
theorem dX3_scoreJoined_22 : decode cX3_scoreJoined 22 = .ok (.invokevirtual 49, 3) := by decide +kernel
theorem dX3_scoreJoined_25 : decode cX3_scoreJoined 25 = .ok (.istore 5, 2) := by decide +kernel
theorem dX3_scoreJoined_27 : decode cX3_scoreJoined 27 = .ok (.aload_n 0, 1) := by decide +kernel
theorem dX3_scoreJoined_28 : decode cX3_scoreJoined 28 = .ok (.getfield 23, 3) := by decide +kernel
theorem dX3_scoreJoined_31 : decode cX3_scoreJoined 31 = .ok (.aload_n 2, 1) := by decide +kernel
theorem dX3_scoreJoined_32 : decode cX3_scoreJoined 32 = .ok (.getfield 122, 3) := by decide +kernel
theorem dX3_scoreJoined_35 : decode cX3_scoreJoined 35 = .ok (.iload 4, 2) := by decide +kernel
theorem dX3_scoreJoined_37 : decode cX3_scoreJoined 37 = .ok (.invokestatic 74, 3) := by decide +kernel
theorem dX3_scoreJoined_40 : decode cX3_scoreJoined 40 = .ok (.invokevirtual 49, 3) := by decide +kernel
theorem dX3_scoreJoined_43 : decode cX3_scoreJoined 43 = .ok (.istore 6, 2) := by decide +kernel
theorem dX3_scoreJoined_45 : decode cX3_scoreJoined 45 = .ok (.aload_n 0, 1) := by decide +kernel
theorem dX3_scoreJoined_46 : decode cX3_scoreJoined 46 = .ok (.getfield 23, 3) := by decide +kernel
theorem dX3_scoreJoined_49 : decode cX3_scoreJoined 49 = .ok (.iload_n 3, 1) := by decide +kernel
theorem dX3_scoreJoined_50 : decode cX3_scoreJoined 50 = .ok (.iload 4, 2) := by decide +kernel
theorem dX3_scoreJoined_52 : decode cX3_scoreJoined 52 = .ok (.invokestatic 74, 3) := by decide +kernel
theorem dX3_scoreJoined_55 : decode cX3_scoreJoined 55 = .ok (.aload_n 2, 1) := by decide +kernel
theorem dX3_scoreJoined_56 : decode cX3_scoreJoined 56 = .ok (.iload 5, 2) := by decide +kernel
theorem dX3_scoreJoined_58 : decode cX3_scoreJoined 58 = .ok (.iload 6, 2) := by decide +kernel
theorem dX3_scoreJoined_60 : decode cX3_scoreJoined 60 = .ok (.invokevirtual 125, 3) := by decide +kernel
theorem dX3_scoreJoined_63 : decode cX3_scoreJoined 63 = .ok (.invokevirtual 85, 3) := by decide +kernel
theorem dX3_scoreJoined_66 : decode cX3_scoreJoined 66 = .ok (.iinc 4 1, 3) := by decide +kernel
theorem dX3_scoreJoined_69 : decode cX3_scoreJoined 69 = .ok (.goto (-66), 3) := by decide +kernel
theorem dX3_scoreJoined_72 : decode cX3_scoreJoined 72 = .ok (.return_, 1) := by decide +kernel
theorem dX3_cell_0 : decode cX3_cell 0 = .ok (.iload_n 0, 1) := by decide +kernel
theorem dX3_cell_1 : decode cX3_cell 1 = .ok (.bipush 30, 2) := by decide +kernel
theorem dX3_cell_3 : decode cX3_cell 3 = .ok (.imul, 1) := by decide +kernel
theorem dX3_cell_4 : decode cX3_cell 4 = .ok (.iload_n 1, 1) := by decide +kernel
theorem dX3_cell_5 : decode cX3_cell 5 = .ok (.iadd, 1) := by decide +kernel
theorem dX3_cell_6 : decode cX3_cell 6 = .ok (.ireturn, 1) := by decide +kernel
theorem dX3_orderHits_0 : decode cX3_orderHits 0 = .ok (.aload_n 0, 1) := by decide +kernel
theorem dX3_orderHits_1 : decode cX3_orderHits 1 = .ok (.iconst 0, 1) := by decide +kernel
theorem dX3_orderHits_2 : decode cX3_orderHits 2 = .ok (.putfield 128, 3) := by decide +kernel
theorem dX3_orderHits_5 : decode cX3_orderHits 5 = .ok (.iconst 0, 1) := by decide +kernel
theorem dX3_orderHits_6 : decode cX3_orderHits 6 = .ok (.istore_n 3, 1) := by decide +kernel
theorem dX3_orderHits_7 : decode cX3_orderHits 7 = .ok (.iload_n 3, 1) := by decide +kernel
theorem dX3_orderHits_8 : decode cX3_orderHits 8 = .ok (.aload_n 1, 1) := by decide +kernel
theorem dX3_orderHits_9 : decode cX3_orderHits 9 = .ok (.invokevirtual 43, 3) := by decide +kernel
theorem dX3_orderHits_12 : decode cX3_orderHits 12 = .ok (.if_icmp .ge 65, 3) := by decide +kernel
theorem dX3_orderHits_15 : decode cX3_orderHits 15 = .ok (.aload_n 0, 1) := by decide +kernel
theorem dX3_orderHits_16 : decode cX3_orderHits 16 = .ok (.iload_n 3, 1) := by decide +kernel
theorem dX3_orderHits_17 : decode cX3_orderHits 17 = .ok (.invokevirtual 131, 3) := by decide +kernel
theorem dX3_orderHits_20 : decode cX3_orderHits 20 = .ok (.iconst (-1), 1) := by decide +kernel
theorem dX3_orderHits_21 : decode cX3_orderHits 21 = .ok (.if_icmp .ne 6, 3) := by decide +kernel
theorem dX3_orderHits_24 : decode cX3_orderHits 24 = .ok (.goto 47, 3) := by decide +kernel
theorem dX3_orderHits_27 : decode cX3_orderHits 27 = .ok (.aload_n 1, 1) := by decide +kernel
theorem dX3_orderHits_28 : decode cX3_orderHits 28 = .ok (.iload_n 3, 1) := by decide +kernel
theorem dX3_orderHits_29 : decode cX3_orderHits 29 = .ok (.invokevirtual 53, 3) := by decide +kernel
theorem dX3_orderHits_32 : decode cX3_orderHits 32 = .ok (.checkcast 99, 3) := by decide +kernel
theorem dX3_orderHits_35 : decode cX3_orderHits 35 = .ok (.getfield 134, 3) := by decide +kernel
theorem dX3_orderHits_38 : decode cX3_orderHits 38 = .ok (.istore 4, 2) := by decide +kernel
theorem dX3_orderHits_40 : decode cX3_orderHits 40 = .ok (.aload_n 0, 1) := by decide +kernel
theorem dX3_orderHits_41 : decode cX3_orderHits 41 = .ok (.getfield 26, 3) := by decide +kernel
theorem dX3_orderHits_44 : decode cX3_orderHits 44 = .ok (.iload_n 3, 1) := by decide +kernel
theorem dX3_orderHits_45 : decode cX3_orderHits 45 = .ok (.aload_n 0, 1) := by decide +kernel
theorem dX3_orderHits_46 : decode cX3_orderHits 46 = .ok (.iload_n 3, 1) := by decide +kernel
theorem dX3_orderHits_47 : decode cX3_orderHits 47 = .ok (.invokevirtual 131, 3) := by decide +kernel
theorem dX3_orderHits_50 : decode cX3_orderHits 50 = .ok (.iload 4, 2) := by decide +kernel
theorem dX3_orderHits_52 : decode cX3_orderHits 52 = .ok (.iload_n 2, 1) := by decide +kernel
theorem dX3_orderHits_53 : decode cX3_orderHits 53 = .ok (.if_icmp .ge 8, 3) := by decide +kernel
theorem dX3_orderHits_56 : decode cX3_orderHits 56 = .ok (.iload 4, 2) := by decide +kernel
theorem dX3_orderHits_58 : decode cX3_orderHits 58 = .ok (.goto 4, 3) := by decide +kernel
theorem dX3_orderHits_61 : decode cX3_orderHits 61 = .ok (.iload_n 2, 1) := by decide +kernel
theorem dX3_orderHits_62 : decode cX3_orderHits 62 = .ok (.iadd, 1) := by decide +kernel
theorem dX3_orderHits_63 : decode cX3_orderHits 63 = .ok (.invokevirtual 85, 3) := by decide +kernel
theorem dX3_orderHits_66 : decode cX3_orderHits 66 = .ok (.aload_n 0, 1) := by decide +kernel
theorem dX3_orderHits_67 : decode cX3_orderHits 67 = .ok (.iload_n 3, 1) := by decide +kernel
theorem dX3_orderHits_68 : decode cX3_orderHits 68 = .ok (.invokevirtual 137, 3) := by decide +kernel
theorem dX3_orderHits_71 : decode cX3_orderHits 71 = .ok (.iinc 3 1, 3) := by decide +kernel
theorem dX3_orderHits_74 : decode cX3_orderHits 74 = .ok (.goto (-67), 3) := by decide +kernel
theorem dX3_orderHits_77 : decode cX3_orderHits 77 = .ok (.return_, 1) := by decide +kernel
theorem dX3_putInOrder_0 : decode cX3_putInOrder 0 = .ok (.aload_n 0, 1) := by decide +kernel
theorem dX3_putInOrder_1 : decode cX3_putInOrder 1 = .ok (.getfield 128, 3) := by decide +kernel
theorem dX3_putInOrder_4 : decode cX3_putInOrder 4 = .ok (.istore_n 2, 1) := by decide +kernel
theorem dX3_putInOrder_5 : decode cX3_putInOrder 5 = .ok (.iload_n 2, 1) := by decide +kernel
theorem dX3_putInOrder_6 : decode cX3_putInOrder 6 = .ok (.ifCond .le 55, 3) := by decide +kernel
theorem dX3_putInOrder_9 : decode cX3_putInOrder 9 = .ok (.aload_n 0, 1) := by decide +kernel
theorem dX3_putInOrder_10 : decode cX3_putInOrder 10 = .ok (.getfield 26, 3) := by decide +kernel
theorem dX3_putInOrder_13 : decode cX3_putInOrder 13 = .ok (.aload_n 0, 1) := by decide +kernel
theorem dX3_putInOrder_14 : decode cX3_putInOrder 14 = .ok (.getfield 29, 3) := by decide +kernel
theorem dX3_putInOrder_17 : decode cX3_putInOrder 17 = .ok (.iload_n 2, 1) := by decide +kernel
theorem dX3_putInOrder_18 : decode cX3_putInOrder 18 = .ok (.iconst 1, 1) := by decide +kernel
theorem dX3_putInOrder_19 : decode cX3_putInOrder 19 = .ok (.isub, 1) := by decide +kernel
theorem dX3_putInOrder_20 : decode cX3_putInOrder 20 = .ok (.invokevirtual 49, 3) := by decide +kernel
theorem dX3_putInOrder_23 : decode cX3_putInOrder 23 = .ok (.invokevirtual 49, 3) := by decide +kernel
theorem dX3_putInOrder_26 : decode cX3_putInOrder 26 = .ok (.aload_n 0, 1) := by decide +kernel
theorem dX3_putInOrder_27 : decode cX3_putInOrder 27 = .ok (.getfield 26, 3) := by decide +kernel
theorem dX3_putInOrder_30 : decode cX3_putInOrder 30 = .ok (.iload_n 1, 1) := by decide +kernel
theorem dX3_putInOrder_31 : decode cX3_putInOrder 31 = .ok (.invokevirtual 49, 3) := by decide +kernel
theorem dX3_putInOrder_34 : decode cX3_putInOrder 34 = .ok (.if_icmp .ge 27, 3) := by decide +kernel
theorem dX3_putInOrder_37 : decode cX3_putInOrder 37 = .ok (.aload_n 0, 1) := by decide +kernel
theorem dX3_putInOrder_38 : decode cX3_putInOrder 38 = .ok (.getfield 29, 3) := by decide +kernel
theorem dX3_putInOrder_41 : decode cX3_putInOrder 41 = .ok (.iload_n 2, 1) := by decide +kernel
theorem dX3_putInOrder_42 : decode cX3_putInOrder 42 = .ok (.aload_n 0, 1) := by decide +kernel
theorem dX3_putInOrder_43 : decode cX3_putInOrder 43 = .ok (.getfield 29, 3) := by decide +kernel
theorem dX3_putInOrder_46 : decode cX3_putInOrder 46 = .ok (.iload_n 2, 1) := by decide +kernel
theorem dX3_putInOrder_47 : decode cX3_putInOrder 47 = .ok (.iconst 1, 1) := by decide +kernel
theorem dX3_putInOrder_48 : decode cX3_putInOrder 48 = .ok (.isub, 1) := by decide +kernel
theorem dX3_putInOrder_49 : decode cX3_putInOrder 49 = .ok (.invokevirtual 49, 3) := by decide +kernel
theorem dX3_putInOrder_52 : decode cX3_putInOrder 52 = .ok (.invokevirtual 85, 3) := by decide +kernel
theorem dX3_putInOrder_55 : decode cX3_putInOrder 55 = .ok (.iinc 2 (-1), 3) := by decide +kernel
theorem dX3_putInOrder_58 : decode cX3_putInOrder 58 = .ok (.goto (-53), 3) := by decide +kernel
theorem dX3_putInOrder_61 : decode cX3_putInOrder 61 = .ok (.aload_n 0, 1) := by decide +kernel
theorem dX3_putInOrder_62 : decode cX3_putInOrder 62 = .ok (.getfield 29, 3) := by decide +kernel
theorem dX3_putInOrder_65 : decode cX3_putInOrder 65 = .ok (.iload_n 2, 1) := by decide +kernel
theorem dX3_putInOrder_66 : decode cX3_putInOrder 66 = .ok (.iload_n 1, 1) := by decide +kernel
theorem dX3_putInOrder_67 : decode cX3_putInOrder 67 = .ok (.invokevirtual 85, 3) := by decide +kernel
theorem dX3_putInOrder_70 : decode cX3_putInOrder 70 = .ok (.aload_n 0, 1) := by decide +kernel
theorem dX3_putInOrder_71 : decode cX3_putInOrder 71 = .ok (.dup, 1) := by decide +kernel
theorem dX3_putInOrder_72 : decode cX3_putInOrder 72 = .ok (.getfield 128, 3) := by decide +kernel
theorem dX3_putInOrder_75 : decode cX3_putInOrder 75 = .ok (.iconst 1, 1) := by decide +kernel
theorem dX3_putInOrder_76 : decode cX3_putInOrder 76 = .ok (.iadd, 1) := by decide +kernel
theorem dX3_putInOrder_77 : decode cX3_putInOrder 77 = .ok (.putfield 128, 3) := by decide +kernel
theorem dX3_putInOrder_80 : decode cX3_putInOrder 80 = .ok (.return_, 1) := by decide +kernel
theorem dX4_init_0 : decode cX4_init 0 = .ok (.aload_n 0, 1) := by decide +kernel
theorem dX4_init_1 : decode cX4_init 1 = .ok (.invokespecial 3, 3) := by decide +kernel
theorem dX4_init_4 : decode cX4_init 4 = .ok (.aload_n 0, 1) := by decide +kernel
theorem dX4_init_5 : decode cX4_init 5 = .ok (.new 9, 3) := by decide +kernel
theorem dX4_init_8 : decode cX4_init 8 = .ok (.dup, 1) := by decide +kernel
theorem dX4_init_9 : decode cX4_init 9 = .ok (.bipush 30, 2) := by decide +kernel
theorem dX4_init_11 : decode cX4_init 11 = .ok (.invokespecial 11, 3) := by decide +kernel
theorem dX4_init_14 : decode cX4_init 14 = .ok (.putfield 14, 3) := by decide +kernel
theorem dX4_init_17 : decode cX4_init 17 = .ok (.aload_n 0, 1) := by decide +kernel
theorem dX4_init_18 : decode cX4_init 18 = .ok (.new 9, 3) := by decide +kernel
theorem dX4_init_21 : decode cX4_init 21 = .ok (.dup, 1) := by decide +kernel
theorem dX4_init_22 : decode cX4_init 22 = .ok (.bipush 30, 2) := by decide +kernel
theorem dX4_init_24 : decode cX4_init 24 = .ok (.invokespecial 11, 3) := by decide +kernel
theorem dX4_init_27 : decode cX4_init 27 = .ok (.putfield 20, 3) := by decide +kernel
theorem dX4_init_30 : decode cX4_init 30 = .ok (.return_, 1) := by decide +kernel
theorem dX4_addToBuffer_0 : decode cX4_addToBuffer 0 = .ok (.aload_n 0, 1) := by decide +kernel
theorem dX4_addToBuffer_1 : decode cX4_addToBuffer 1 = .ok (.getfield 14, 3) := by decide +kernel
theorem dX4_addToBuffer_4 : decode cX4_addToBuffer 4 = .ok (.aload_n 0, 1) := by decide +kernel
theorem dX4_addToBuffer_5 : decode cX4_addToBuffer 5 = .ok (.getfield 23, 3) := by decide +kernel
theorem dX4_addToBuffer_8 : decode cX4_addToBuffer 8 = .ok (.bipush 98, 2) := by decide +kernel
theorem dX4_addToBuffer_10 : decode cX4_addToBuffer 10 = .ok (.invokevirtual 27, 3) := by decide +kernel
theorem dX4_addToBuffer_13 : decode cX4_addToBuffer 13 = .ok (.aload_n 0, 1) := by decide +kernel
theorem dX4_addToBuffer_14 : decode cX4_addToBuffer 14 = .ok (.getfield 20, 3) := by decide +kernel
theorem dX4_addToBuffer_17 : decode cX4_addToBuffer 17 = .ok (.aload_n 0, 1) := by decide +kernel
theorem dX4_addToBuffer_18 : decode cX4_addToBuffer 18 = .ok (.getfield 23, 3) := by decide +kernel
theorem dX4_addToBuffer_21 : decode cX4_addToBuffer 21 = .ok (.iconst (-1), 1) := by decide +kernel
theorem dX4_addToBuffer_22 : decode cX4_addToBuffer 22 = .ok (.invokevirtual 27, 3) := by decide +kernel
theorem dX4_addToBuffer_25 : decode cX4_addToBuffer 25 = .ok (.aload_n 0, 1) := by decide +kernel
theorem dX4_addToBuffer_26 : decode cX4_addToBuffer 26 = .ok (.dup, 1) := by decide +kernel
theorem dX4_addToBuffer_27 : decode cX4_addToBuffer 27 = .ok (.getfield 23, 3) := by decide +kernel
theorem dX4_addToBuffer_30 : decode cX4_addToBuffer 30 = .ok (.iconst 1, 1) := by decide +kernel
theorem dX4_addToBuffer_31 : decode cX4_addToBuffer 31 = .ok (.iadd, 1) := by decide +kernel
theorem dX4_addToBuffer_32 : decode cX4_addToBuffer 32 = .ok (.putfield 23, 3) := by decide +kernel
theorem dX4_addToBuffer_35 : decode cX4_addToBuffer 35 = .ok (.return_, 1) := by decide +kernel
theorem dX4_stateOf_0 : decode cX4_stateOf 0 = .ok (.aload_n 0, 1) := by decide +kernel
theorem dX4_stateOf_1 : decode cX4_stateOf 1 = .ok (.getfield 14, 3) := by decide +kernel
theorem dX4_stateOf_4 : decode cX4_stateOf 4 = .ok (.iload_n 1, 1) := by decide +kernel
theorem dX4_stateOf_5 : decode cX4_stateOf 5 = .ok (.invokevirtual 31, 3) := by decide +kernel
theorem dX4_stateOf_8 : decode cX4_stateOf 8 = .ok (.i2c, 1) := by decide +kernel
theorem dX4_stateOf_9 : decode cX4_stateOf 9 = .ok (.ireturn, 1) := by decide +kernel
theorem dX4_lives_0 : decode cX4_lives 0 = .ok (.aload_n 0, 1) := by decide +kernel
theorem dX4_lives_1 : decode cX4_lives 1 = .ok (.iload_n 1, 1) := by decide +kernel
theorem dX4_lives_2 : decode cX4_lives 2 = .ok (.invokevirtual 35, 3) := by decide +kernel
theorem dX4_lives_5 : decode cX4_lives 5 = .ok (.bipush 98, 2) := by decide +kernel
theorem dX4_lives_7 : decode cX4_lives 7 = .ok (.if_icmp .eq 13, 3) := by decide +kernel
theorem dX4_lives_10 : decode cX4_lives 10 = .ok (.aload_n 0, 1) := by decide +kernel
theorem dX4_lives_11 : decode cX4_lives 11 = .ok (.iload_n 1, 1) := by decide +kernel
theorem dX4_lives_12 : decode cX4_lives 12 = .ok (.invokevirtual 35, 3) := by decide +kernel
theorem dX4_lives_15 : decode cX4_lives 15 = .ok (.bipush 115, 2) := by decide +kernel
theorem dX4_lives_17 : decode cX4_lives 17 = .ok (.if_icmp .ne 7, 3) := by decide +kernel
theorem dX4_lives_20 : decode cX4_lives 20 = .ok (.iconst 1, 1) := by decide +kernel
theorem dX4_lives_21 : decode cX4_lives 21 = .ok (.goto 4, 3) := by decide +kernel
theorem dX4_lives_24 : decode cX4_lives 24 = .ok (.iconst 0, 1) := by decide +kernel
theorem dX4_lives_25 : decode cX4_lives 25 = .ok (.ireturn, 1) := by decide +kernel
theorem dX4_takeOut_0 : decode cX4_takeOut 0 = .ok (.aload_n 0, 1) := by decide +kernel
theorem dX4_takeOut_1 : decode cX4_takeOut 1 = .ok (.getfield 14, 3) := by decide +kernel
theorem dX4_takeOut_4 : decode cX4_takeOut 4 = .ok (.iload_n 1, 1) := by decide +kernel
theorem dX4_takeOut_5 : decode cX4_takeOut 5 = .ok (.bipush 114, 2) := by decide +kernel
theorem dX4_takeOut_7 : decode cX4_takeOut 7 = .ok (.invokevirtual 27, 3) := by decide +kernel
theorem dX4_takeOut_10 : decode cX4_takeOut 10 = .ok (.return_, 1) := by decide +kernel
theorem dX4_writeBuffer_0 : decode cX4_writeBuffer 0 = .ok (.iconst 0, 1) := by decide +kernel
theorem dX4_writeBuffer_1 : decode cX4_writeBuffer 1 = .ok (.istore_n 1, 1) := by decide +kernel
theorem dX4_writeBuffer_2 : decode cX4_writeBuffer 2 = .ok (.iconst 0, 1) := by decide +kernel
theorem dX4_writeBuffer_3 : decode cX4_writeBuffer 3 = .ok (.istore_n 2, 1) := by decide +kernel
theorem dX4_writeBuffer_4 : decode cX4_writeBuffer 4 = .ok (.iload_n 2, 1) := by decide +kernel
theorem dX4_writeBuffer_5 : decode cX4_writeBuffer 5 = .ok (.aload_n 0, 1) := by decide +kernel
theorem dX4_writeBuffer_6 : decode cX4_writeBuffer 6 = .ok (.getfield 23, 3) := by decide +kernel
theorem dX4_writeBuffer_9 : decode cX4_writeBuffer 9 = .ok (.if_icmp .ge 47, 3) := by decide +kernel
theorem dX4_writeBuffer_12 : decode cX4_writeBuffer 12 = .ok (.aload_n 0, 1) := by decide +kernel
theorem dX4_writeBuffer_13 : decode cX4_writeBuffer 13 = .ok (.iload_n 2, 1) := by decide +kernel
theorem dX4_writeBuffer_14 : decode cX4_writeBuffer 14 = .ok (.invokevirtual 35, 3) := by decide +kernel
theorem dX4_writeBuffer_17 : decode cX4_writeBuffer 17 = .ok (.bipush 98, 2) := by decide +kernel
theorem dX4_writeBuffer_19 : decode cX4_writeBuffer 19 = .ok (.if_icmp .eq 6, 3) := by decide +kernel
theorem dX4_writeBuffer_22 : decode cX4_writeBuffer 22 = .ok (.goto 28, 3) := by decide +kernel
theorem dX4_writeBuffer_25 : decode cX4_writeBuffer 25 = .ok (.aload_n 0, 1) := by decide +kernel
theorem dX4_writeBuffer_26 : decode cX4_writeBuffer 26 = .ok (.getfield 14, 3) := by decide +kernel
theorem dX4_writeBuffer_29 : decode cX4_writeBuffer 29 = .ok (.iload_n 2, 1) := by decide +kernel
theorem dX4_writeBuffer_30 : decode cX4_writeBuffer 30 = .ok (.bipush 115, 2) := by decide +kernel
theorem dX4_writeBuffer_32 : decode cX4_writeBuffer 32 = .ok (.invokevirtual 27, 3) := by decide +kernel
theorem dX4_writeBuffer_35 : decode cX4_writeBuffer 35 = .ok (.aload_n 0, 1) := by decide +kernel
theorem dX4_writeBuffer_36 : decode cX4_writeBuffer 36 = .ok (.getfield 20, 3) := by decide +kernel
theorem dX4_writeBuffer_39 : decode cX4_writeBuffer 39 = .ok (.iload_n 2, 1) := by decide +kernel
theorem dX4_writeBuffer_40 : decode cX4_writeBuffer 40 = .ok (.aload_n 0, 1) := by decide +kernel
theorem dX4_writeBuffer_41 : decode cX4_writeBuffer 41 = .ok (.getfield 39, 3) := by decide +kernel
theorem dX4_writeBuffer_44 : decode cX4_writeBuffer 44 = .ok (.invokevirtual 27, 3) := by decide +kernel
theorem dX4_writeBuffer_47 : decode cX4_writeBuffer 47 = .ok (.iinc 1 1, 3) := by decide +kernel
theorem dX4_writeBuffer_50 : decode cX4_writeBuffer 50 = .ok (.iinc 2 1, 3) := by decide +kernel
theorem dX4_writeBuffer_53 : decode cX4_writeBuffer 53 = .ok (.goto (-49), 3) := by decide +kernel
theorem dX4_writeBuffer_56 : decode cX4_writeBuffer 56 = .ok (.iload_n 1, 1) := by decide +kernel
theorem dX4_writeBuffer_57 : decode cX4_writeBuffer 57 = .ok (.ifCond .le 13, 3) := by decide +kernel
theorem dX4_writeBuffer_60 : decode cX4_writeBuffer 60 = .ok (.aload_n 0, 1) := by decide +kernel
theorem dX4_writeBuffer_61 : decode cX4_writeBuffer 61 = .ok (.dup, 1) := by decide +kernel
theorem dX4_writeBuffer_62 : decode cX4_writeBuffer 62 = .ok (.getfield 39, 3) := by decide +kernel
theorem dX4_writeBuffer_65 : decode cX4_writeBuffer 65 = .ok (.iconst 1, 1) := by decide +kernel
theorem dX4_writeBuffer_66 : decode cX4_writeBuffer 66 = .ok (.iadd, 1) := by decide +kernel
theorem dX4_writeBuffer_67 : decode cX4_writeBuffer 67 = .ok (.putfield 39, 3) := by decide +kernel
theorem dX4_writeBuffer_70 : decode cX4_writeBuffer 70 = .ok (.iload_n 1, 1) := by decide +kernel
theorem dX4_writeBuffer_71 : decode cX4_writeBuffer 71 = .ok (.ireturn, 1) := by decide +kernel
theorem dX4_hasSegment_0 : decode cX4_hasSegment 0 = .ok (.iload_n 1, 1) := by decide +kernel
theorem dX4_hasSegment_1 : decode cX4_hasSegment 1 = .ok (.ifCond .lt 15, 3) := by decide +kernel
theorem dX4_hasSegment_4 : decode cX4_hasSegment 4 = .ok (.iload_n 1, 1) := by decide +kernel
theorem dX4_hasSegment_5 : decode cX4_hasSegment 5 = .ok (.aload_n 0, 1) := by decide +kernel
theorem dX4_hasSegment_6 : decode cX4_hasSegment 6 = .ok (.getfield 39, 3) := by decide +kernel
theorem dX4_hasSegment_9 : decode cX4_hasSegment 9 = .ok (.if_icmp .ge 7, 3) := by decide +kernel
theorem dX4_hasSegment_12 : decode cX4_hasSegment 12 = .ok (.iconst 1, 1) := by decide +kernel
theorem dX4_hasSegment_13 : decode cX4_hasSegment 13 = .ok (.goto 4, 3) := by decide +kernel
theorem dX4_hasSegment_16 : decode cX4_hasSegment 16 = .ok (.iconst 0, 1) := by decide +kernel
theorem dX4_hasSegment_17 : decode cX4_hasSegment 17 = .ok (.ireturn, 1) := by decide +kernel
theorem dX4_documentsIn_0 : decode cX4_documentsIn 0 = .ok (.iconst 0, 1) := by decide +kernel
theorem dX4_documentsIn_1 : decode cX4_documentsIn 1 = .ok (.istore_n 2, 1) := by decide +kernel
theorem dX4_documentsIn_2 : decode cX4_documentsIn 2 = .ok (.iconst 0, 1) := by decide +kernel
theorem dX4_documentsIn_3 : decode cX4_documentsIn 3 = .ok (.istore_n 3, 1) := by decide +kernel
theorem dX4_documentsIn_4 : decode cX4_documentsIn 4 = .ok (.iload_n 3, 1) := by decide +kernel
theorem dX4_documentsIn_5 : decode cX4_documentsIn 5 = .ok (.aload_n 0, 1) := by decide +kernel
theorem dX4_documentsIn_6 : decode cX4_documentsIn 6 = .ok (.getfield 23, 3) := by decide +kernel
theorem dX4_documentsIn_9 : decode cX4_documentsIn 9 = .ok (.if_icmp .ge 24, 3) := by decide +kernel
theorem dX4_documentsIn_12 : decode cX4_documentsIn 12 = .ok (.aload_n 0, 1) := by decide +kernel
theorem dX4_documentsIn_13 : decode cX4_documentsIn 13 = .ok (.getfield 20, 3) := by decide +kernel
theorem dX4_documentsIn_16 : decode cX4_documentsIn 16 = .ok (.iload_n 3, 1) := by decide +kernel
theorem dX4_documentsIn_17 : decode cX4_documentsIn 17 = .ok (.invokevirtual 31, 3) := by decide +kernel
theorem dX4_documentsIn_20 : decode cX4_documentsIn 20 = .ok (.iload_n 1, 1) := by decide +kernel
theorem dX4_documentsIn_21 : decode cX4_documentsIn 21 = .ok (.if_icmp .ne 6, 3) := by decide +kernel
theorem dX4_documentsIn_24 : decode cX4_documentsIn 24 = .ok (.iinc 2 1, 3) := by decide +kernel
theorem dX4_documentsIn_27 : decode cX4_documentsIn 27 = .ok (.iinc 3 1, 3) := by decide +kernel
theorem dX4_documentsIn_30 : decode cX4_documentsIn 30 = .ok (.goto (-26), 3) := by decide +kernel
theorem dX4_documentsIn_33 : decode cX4_documentsIn 33 = .ok (.iload_n 2, 1) := by decide +kernel
theorem dX4_documentsIn_34 : decode cX4_documentsIn 34 = .ok (.ireturn, 1) := by decide +kernel
theorem dX4_mergeWithNext_0 : decode cX4_mergeWithNext 0 = .ok (.iconst 0, 1) := by decide +kernel
theorem dX4_mergeWithNext_1 : decode cX4_mergeWithNext 1 = .ok (.istore_n 2, 1) := by decide +kernel
theorem dX4_mergeWithNext_2 : decode cX4_mergeWithNext 2 = .ok (.iconst 0, 1) := by decide +kernel
theorem dX4_mergeWithNext_3 : decode cX4_mergeWithNext 3 = .ok (.istore_n 3, 1) := by decide +kernel
theorem dX4_mergeWithNext_4 : decode cX4_mergeWithNext 4 = .ok (.iconst 0, 1) := by decide +kernel
theorem dX4_mergeWithNext_5 : decode cX4_mergeWithNext 5 = .ok (.istore 4, 2) := by decide +kernel
theorem dX4_mergeWithNext_7 : decode cX4_mergeWithNext 7 = .ok (.iload 4, 2) := by decide +kernel
theorem dX4_mergeWithNext_9 : decode cX4_mergeWithNext 9 = .ok (.aload_n 0, 1) := by decide +kernel
theorem dX4_mergeWithNext_10 : decode cX4_mergeWithNext 10 = .ok (.getfield 23, 3) := by decide +kernel
theorem dX4_mergeWithNext_13 : decode cX4_mergeWithNext 13 = .ok (.if_icmp .ge 77, 3) := by decide +kernel
theorem dX4_mergeWithNext_16 : decode cX4_mergeWithNext 16 = .ok (.aload_n 0, 1) := by decide +kernel
theorem dX4_mergeWithNext_17 : decode cX4_mergeWithNext 17 = .ok (.getfield 20, 3) := by decide +kernel
theorem dX4_mergeWithNext_20 : decode cX4_mergeWithNext 20 = .ok (.iload 4, 2) := by decide +kernel
theorem dX4_mergeWithNext_22 : decode cX4_mergeWithNext 22 = .ok (.invokevirtual 31, 3) := by decide +kernel
theorem dX4_mergeWithNext_25 : decode cX4_mergeWithNext 25 = .ok (.istore 5, 2) := by decide +kernel
theorem dX4_mergeWithNext_27 : decode cX4_mergeWithNext 27 = .ok (.iload 5, 2) := by decide +kernel
theorem dX4_mergeWithNext_29 : decode cX4_mergeWithNext 29 = .ok (.iload_n 1, 1) := by decide +kernel
theorem dX4_mergeWithNext_30 : decode cX4_mergeWithNext 30 = .ok (.if_icmp .eq 14, 3) := by decide +kernel
theorem dX4_mergeWithNext_33 : decode cX4_mergeWithNext 33 = .ok (.iload 5, 2) := by decide +kernel
theorem dX4_mergeWithNext_35 : decode cX4_mergeWithNext 35 = .ok (.iload_n 1, 1) := by decide +kernel
theorem dX4_mergeWithNext_36 : decode cX4_mergeWithNext 36 = .ok (.iconst 1, 1) := by decide +kernel
theorem dX4_mergeWithNext_37 : decode cX4_mergeWithNext 37 = .ok (.iadd, 1) := by decide +kernel
theorem dX4_mergeWithNext_38 : decode cX4_mergeWithNext 38 = .ok (.if_icmp .eq 6, 3) := by decide +kernel
theorem dX4_mergeWithNext_41 : decode cX4_mergeWithNext 41 = .ok (.goto 43, 3) := by decide +kernel
theorem dX4_mergeWithNext_44 : decode cX4_mergeWithNext 44 = .ok (.aload_n 0, 1) := by decide +kernel
theorem dX4_mergeWithNext_45 : decode cX4_mergeWithNext 45 = .ok (.iload 4, 2) := by decide +kernel
theorem dX4_mergeWithNext_47 : decode cX4_mergeWithNext 47 = .ok (.invokevirtual 35, 3) := by decide +kernel
theorem dX4_mergeWithNext_50 : decode cX4_mergeWithNext 50 = .ok (.bipush 114, 2) := by decide +kernel
theorem dX4_mergeWithNext_52 : decode cX4_mergeWithNext 52 = .ok (.if_icmp .ne 19, 3) := by decide +kernel
theorem dX4_mergeWithNext_55 : decode cX4_mergeWithNext 55 = .ok (.aload_n 0, 1) := by decide +kernel
theorem dX4_mergeWithNext_56 : decode cX4_mergeWithNext 56 = .ok (.getfield 20, 3) := by decide +kernel
theorem dX4_mergeWithNext_59 : decode cX4_mergeWithNext 59 = .ok (.iload 4, 2) := by decide +kernel
theorem dX4_mergeWithNext_61 : decode cX4_mergeWithNext 61 = .ok (.iconst (-1), 1) := by decide +kernel
theorem dX4_mergeWithNext_62 : decode cX4_mergeWithNext 62 = .ok (.invokevirtual 27, 3) := by decide +kernel
theorem dX4_mergeWithNext_65 : decode cX4_mergeWithNext 65 = .ok (.iinc 2 1, 3) := by decide +kernel
theorem dX4_mergeWithNext_68 : decode cX4_mergeWithNext 68 = .ok (.goto 16, 3) := by decide +kernel
theorem dX4_mergeWithNext_71 : decode cX4_mergeWithNext 71 = .ok (.aload_n 0, 1) := by decide +kernel
theorem dX4_mergeWithNext_72 : decode cX4_mergeWithNext 72 = .ok (.getfield 20, 3) := by decide +kernel
theorem dX4_mergeWithNext_75 : decode cX4_mergeWithNext 75 = .ok (.iload 4, 2) := by decide +kernel
theorem dX4_mergeWithNext_77 : decode cX4_mergeWithNext 77 = .ok (.iload_n 1, 1) := by decide +kernel
theorem dX4_mergeWithNext_78 : decode cX4_mergeWithNext 78 = .ok (.invokevirtual 27, 3) := by decide +kernel
theorem dX4_mergeWithNext_81 : decode cX4_mergeWithNext 81 = .ok (.iinc 3 1, 3) := by decide +kernel
theorem dX4_mergeWithNext_84 : decode cX4_mergeWithNext 84 = .ok (.iinc 4 1, 3) := by decide +kernel
theorem dX4_mergeWithNext_87 : decode cX4_mergeWithNext 87 = .ok (.goto (-80), 3) := by decide +kernel
theorem dX4_mergeWithNext_90 : decode cX4_mergeWithNext 90 = .ok (.aload_n 0, 1) := by decide +kernel
theorem dX4_mergeWithNext_91 : decode cX4_mergeWithNext 91 = .ok (.iload_n 1, 1) := by decide +kernel
theorem dX4_mergeWithNext_92 : decode cX4_mergeWithNext 92 = .ok (.iconst 1, 1) := by decide +kernel
theorem dX4_mergeWithNext_93 : decode cX4_mergeWithNext 93 = .ok (.iadd, 1) := by decide +kernel
theorem dX4_mergeWithNext_94 : decode cX4_mergeWithNext 94 = .ok (.iload_n 3, 1) := by decide +kernel
theorem dX4_mergeWithNext_95 : decode cX4_mergeWithNext 95 = .ok (.ifCond .ne 7, 3) := by decide +kernel
theorem dX4_mergeWithNext_98 : decode cX4_mergeWithNext 98 = .ok (.iconst 2, 1) := by decide +kernel
theorem dX4_mergeWithNext_99 : decode cX4_mergeWithNext 99 = .ok (.goto 4, 3) := by decide +kernel
theorem dX4_mergeWithNext_102 : decode cX4_mergeWithNext 102 = .ok (.iconst 1, 1) := by decide +kernel
theorem dX4_mergeWithNext_103 : decode cX4_mergeWithNext 103 = .ok (.invokevirtual 42, 3) := by decide +kernel
theorem dX4_mergeWithNext_106 : decode cX4_mergeWithNext 106 = .ok (.iload_n 2, 1) := by decide +kernel
theorem dX4_mergeWithNext_107 : decode cX4_mergeWithNext 107 = .ok (.ireturn, 1) := by decide +kernel
theorem dX4_moveUp_0 : decode cX4_moveUp 0 = .ok (.iconst 0, 1) := by decide +kernel
theorem dX4_moveUp_1 : decode cX4_moveUp 1 = .ok (.istore_n 3, 1) := by decide +kernel
theorem dX4_moveUp_2 : decode cX4_moveUp 2 = .ok (.iload_n 3, 1) := by decide +kernel
theorem dX4_moveUp_3 : decode cX4_moveUp 3 = .ok (.aload_n 0, 1) := by decide +kernel
theorem dX4_moveUp_4 : decode cX4_moveUp 4 = .ok (.getfield 23, 3) := by decide +kernel
theorem dX4_moveUp_7 : decode cX4_moveUp 7 = .ok (.if_icmp .ge 37, 3) := by decide +kernel
theorem dX4_moveUp_10 : decode cX4_moveUp 10 = .ok (.aload_n 0, 1) := by decide +kernel
theorem dX4_moveUp_11 : decode cX4_moveUp 11 = .ok (.getfield 20, 3) := by decide +kernel
theorem dX4_moveUp_14 : decode cX4_moveUp 14 = .ok (.iload_n 3, 1) := by decide +kernel
theorem dX4_moveUp_15 : decode cX4_moveUp 15 = .ok (.invokevirtual 31, 3) := by decide +kernel
theorem dX4_moveUp_18 : decode cX4_moveUp 18 = .ok (.istore 4, 2) := by decide +kernel
theorem dX4_moveUp_20 : decode cX4_moveUp 20 = .ok (.iload 4, 2) := by decide +kernel
theorem dX4_moveUp_22 : decode cX4_moveUp 22 = .ok (.iload_n 1, 1) := by decide +kernel
theorem dX4_moveUp_23 : decode cX4_moveUp 23 = .ok (.if_icmp .le 15, 3) := by decide +kernel
theorem dX4_moveUp_26 : decode cX4_moveUp 26 = .ok (.aload_n 0, 1) := by decide +kernel
theorem dX4_moveUp_27 : decode cX4_moveUp 27 = .ok (.getfield 20, 3) := by decide +kernel
theorem dX4_moveUp_30 : decode cX4_moveUp 30 = .ok (.iload_n 3, 1) := by decide +kernel
theorem dX4_moveUp_31 : decode cX4_moveUp 31 = .ok (.iload 4, 2) := by decide +kernel
theorem dX4_moveUp_33 : decode cX4_moveUp 33 = .ok (.iload_n 2, 1) := by decide +kernel
theorem dX4_moveUp_34 : decode cX4_moveUp 34 = .ok (.isub, 1) := by decide +kernel
theorem dX4_moveUp_35 : decode cX4_moveUp 35 = .ok (.invokevirtual 27, 3) := by decide +kernel
theorem dX4_moveUp_38 : decode cX4_moveUp 38 = .ok (.iinc 3 1, 3) := by decide +kernel
theorem dX4_moveUp_41 : decode cX4_moveUp 41 = .ok (.goto (-39), 3) := by decide +kernel
theorem dX4_moveUp_44 : decode cX4_moveUp 44 = .ok (.aload_n 0, 1) := by decide +kernel
theorem dX4_moveUp_45 : decode cX4_moveUp 45 = .ok (.dup, 1) := by decide +kernel
theorem dX4_moveUp_46 : decode cX4_moveUp 46 = .ok (.getfield 39, 3) := by decide +kernel
theorem dX4_moveUp_49 : decode cX4_moveUp 49 = .ok (.iload_n 2, 1) := by decide +kernel
theorem dX4_moveUp_50 : decode cX4_moveUp 50 = .ok (.isub, 1) := by decide +kernel
theorem dX4_moveUp_51 : decode cX4_moveUp 51 = .ok (.putfield 39, 3) := by decide +kernel
theorem dX4_moveUp_54 : decode cX4_moveUp 54 = .ok (.return_, 1) := by decide +kernel
theorem dX4_takeOver_0 : decode cX4_takeOver 0 = .ok (.aload_n 0, 1) := by decide +kernel
theorem dX4_takeOver_1 : decode cX4_takeOver 1 = .ok (.getfield 14, 3) := by decide +kernel
theorem dX4_takeOver_4 : decode cX4_takeOver 4 = .ok (.aload_n 1, 1) := by decide +kernel
theorem dX4_takeOver_5 : decode cX4_takeOver 5 = .ok (.getfield 14, 3) := by decide +kernel
theorem dX4_takeOver_8 : decode cX4_takeOver 8 = .ok (.invokevirtual 45, 3) := by decide +kernel
theorem dX4_takeOver_11 : decode cX4_takeOver 11 = .ok (.aload_n 0, 1) := by decide +kernel
theorem dX4_takeOver_12 : decode cX4_takeOver 12 = .ok (.getfield 20, 3) := by decide +kernel
theorem dX4_takeOver_15 : decode cX4_takeOver 15 = .ok (.aload_n 1, 1) := by decide +kernel
theorem dX4_takeOver_16 : decode cX4_takeOver 16 = .ok (.getfield 20, 3) := by decide +kernel
theorem dX4_takeOver_19 : decode cX4_takeOver 19 = .ok (.invokevirtual 45, 3) := by decide +kernel
theorem dX4_takeOver_22 : decode cX4_takeOver 22 = .ok (.aload_n 0, 1) := by decide +kernel
theorem dX4_takeOver_23 : decode cX4_takeOver 23 = .ok (.aload_n 1, 1) := by decide +kernel
theorem dX4_takeOver_24 : decode cX4_takeOver 24 = .ok (.getfield 23, 3) := by decide +kernel
theorem dX4_takeOver_27 : decode cX4_takeOver 27 = .ok (.putfield 23, 3) := by decide +kernel
theorem dX4_takeOver_30 : decode cX4_takeOver 30 = .ok (.aload_n 0, 1) := by decide +kernel
theorem dX4_takeOver_31 : decode cX4_takeOver 31 = .ok (.aload_n 1, 1) := by decide +kernel
theorem dX4_takeOver_32 : decode cX4_takeOver 32 = .ok (.getfield 39, 3) := by decide +kernel
theorem dX4_takeOver_35 : decode cX4_takeOver 35 = .ok (.putfield 39, 3) := by decide +kernel
theorem dX4_takeOver_38 : decode cX4_takeOver 38 = .ok (.return_, 1) := by decide +kernel
theorem dX4_goBackTo_0 : decode cX4_goBackTo 0 = .ok (.iconst 0, 1) := by decide +kernel
theorem dX4_goBackTo_1 : decode cX4_goBackTo 1 = .ok (.istore_n 2, 1) := by decide +kernel
theorem dX4_goBackTo_2 : decode cX4_goBackTo 2 = .ok (.iconst 0, 1) := by decide +kernel
theorem dX4_goBackTo_3 : decode cX4_goBackTo 3 = .ok (.istore_n 3, 1) := by decide +kernel
theorem dX4_goBackTo_4 : decode cX4_goBackTo 4 = .ok (.iload_n 3, 1) := by decide +kernel
theorem dX4_goBackTo_5 : decode cX4_goBackTo 5 = .ok (.aload_n 0, 1) := by decide +kernel
theorem dX4_goBackTo_6 : decode cX4_goBackTo 6 = .ok (.getfield 23, 3) := by decide +kernel
theorem dX4_goBackTo_9 : decode cX4_goBackTo 9 = .ok (.if_icmp .ge 92, 3) := by decide +kernel
theorem dX4_goBackTo_12 : decode cX4_goBackTo 12 = .ok (.aload_n 0, 1) := by decide +kernel
theorem dX4_goBackTo_13 : decode cX4_goBackTo 13 = .ok (.iload_n 3, 1) := by decide +kernel
theorem dX4_goBackTo_14 : decode cX4_goBackTo 14 = .ok (.invokevirtual 49, 3) := by decide +kernel
theorem dX4_goBackTo_17 : decode cX4_goBackTo 17 = .ok (.istore 4, 2) := by decide +kernel
theorem dX4_goBackTo_19 : decode cX4_goBackTo 19 = .ok (.iload_n 3, 1) := by decide +kernel
theorem dX4_goBackTo_20 : decode cX4_goBackTo 20 = .ok (.aload_n 1, 1) := by decide +kernel
theorem dX4_goBackTo_21 : decode cX4_goBackTo 21 = .ok (.getfield 23, 3) := by decide +kernel
theorem dX4_goBackTo_24 : decode cX4_goBackTo 24 = .ok (.if_icmp .lt 7, 3) := by decide +kernel
theorem dX4_goBackTo_27 : decode cX4_goBackTo 27 = .ok (.iconst 1, 1) := by decide +kernel
theorem dX4_goBackTo_28 : decode cX4_goBackTo 28 = .ok (.goto 4, 3) := by decide +kernel
theorem dX4_goBackTo_31 : decode cX4_goBackTo 31 = .ok (.iconst 0, 1) := by decide +kernel
theorem dX4_goBackTo_32 : decode cX4_goBackTo 32 = .ok (.istore 5, 2) := by decide +kernel
theorem dX4_goBackTo_34 : decode cX4_goBackTo 34 = .ok (.aload_n 0, 1) := by decide +kernel
theorem dX4_goBackTo_35 : decode cX4_goBackTo 35 = .ok (.getfield 14, 3) := by decide +kernel
theorem dX4_goBackTo_38 : decode cX4_goBackTo 38 = .ok (.iload_n 3, 1) := by decide +kernel
theorem dX4_goBackTo_39 : decode cX4_goBackTo 39 = .ok (.iload 5, 2) := by decide +kernel
theorem dX4_goBackTo_41 : decode cX4_goBackTo 41 = .ok (.ifCond .eq 8, 3) := by decide +kernel
theorem dX4_goBackTo_44 : decode cX4_goBackTo 44 = .ok (.bipush 108, 2) := by decide +kernel
theorem dX4_goBackTo_46 : decode cX4_goBackTo 46 = .ok (.goto 8, 3) := by decide +kernel
theorem dX4_goBackTo_49 : decode cX4_goBackTo 49 = .ok (.aload_n 1, 1) := by decide +kernel
theorem dX4_goBackTo_50 : decode cX4_goBackTo 50 = .ok (.iload_n 3, 1) := by decide +kernel
theorem dX4_goBackTo_51 : decode cX4_goBackTo 51 = .ok (.invokevirtual 35, 3) := by decide +kernel
theorem dX4_goBackTo_54 : decode cX4_goBackTo 54 = .ok (.invokevirtual 27, 3) := by decide +kernel
theorem dX4_goBackTo_57 : decode cX4_goBackTo 57 = .ok (.aload_n 0, 1) := by decide +kernel
theorem dX4_goBackTo_58 : decode cX4_goBackTo 58 = .ok (.getfield 20, 3) := by decide +kernel
theorem dX4_goBackTo_61 : decode cX4_goBackTo 61 = .ok (.iload_n 3, 1) := by decide +kernel
theorem dX4_goBackTo_62 : decode cX4_goBackTo 62 = .ok (.iload 5, 2) := by decide +kernel
theorem dX4_goBackTo_64 : decode cX4_goBackTo 64 = .ok (.ifCond .eq 7, 3) := by decide +kernel
theorem dX4_goBackTo_67 : decode cX4_goBackTo 67 = .ok (.iconst (-1), 1) := by decide +kernel
theorem dX4_goBackTo_68 : decode cX4_goBackTo 68 = .ok (.goto 11, 3) := by decide +kernel
theorem dX4_goBackTo_71 : decode cX4_goBackTo 71 = .ok (.aload_n 1, 1) := by decide +kernel
theorem dX4_goBackTo_72 : decode cX4_goBackTo 72 = .ok (.getfield 20, 3) := by decide +kernel
theorem dX4_goBackTo_75 : decode cX4_goBackTo 75 = .ok (.iload_n 3, 1) := by decide +kernel
theorem dX4_goBackTo_76 : decode cX4_goBackTo 76 = .ok (.invokevirtual 31, 3) := by decide +kernel
theorem dX4_goBackTo_79 : decode cX4_goBackTo 79 = .ok (.invokevirtual 27, 3) := by decide +kernel
theorem dX4_goBackTo_82 : decode cX4_goBackTo 82 = .ok (.aload_n 0, 1) := by decide +kernel
theorem dX4_goBackTo_83 : decode cX4_goBackTo 83 = .ok (.iload_n 3, 1) := by decide +kernel
theorem dX4_goBackTo_84 : decode cX4_goBackTo 84 = .ok (.invokevirtual 49, 3) := by decide +kernel
theorem dX4_goBackTo_87 : decode cX4_goBackTo 87 = .ok (.iload 4, 2) := by decide +kernel
theorem dX4_goBackTo_89 : decode cX4_goBackTo 89 = .ok (.if_icmp .eq 6, 3) := by decide +kernel
theorem dX4_goBackTo_92 : decode cX4_goBackTo 92 = .ok (.iinc 2 1, 3) := by decide +kernel
theorem dX4_goBackTo_95 : decode cX4_goBackTo 95 = .ok (.iinc 3 1, 3) := by decide +kernel
theorem dX4_goBackTo_98 : decode cX4_goBackTo 98 = .ok (.goto (-94), 3) := by decide +kernel
theorem dX4_goBackTo_101 : decode cX4_goBackTo 101 = .ok (.aload_n 0, 1) := by decide +kernel
theorem dX4_goBackTo_102 : decode cX4_goBackTo 102 = .ok (.aload_n 1, 1) := by decide +kernel
theorem dX4_goBackTo_103 : decode cX4_goBackTo 103 = .ok (.getfield 39, 3) := by decide +kernel
theorem dX4_goBackTo_106 : decode cX4_goBackTo 106 = .ok (.putfield 39, 3) := by decide +kernel
theorem dX4_goBackTo_109 : decode cX4_goBackTo 109 = .ok (.iload_n 2, 1) := by decide +kernel
theorem dX4_goBackTo_110 : decode cX4_goBackTo 110 = .ok (.ireturn, 1) := by decide +kernel
theorem dX4_listPresent_0 : decode cX4_listPresent 0 = .ok (.iconst 0, 1) := by decide +kernel
theorem dX4_listPresent_1 : decode cX4_listPresent 1 = .ok (.istore_n 2, 1) := by decide +kernel
theorem dX4_listPresent_2 : decode cX4_listPresent 2 = .ok (.aload_n 1, 1) := by decide +kernel
theorem dX4_listPresent_3 : decode cX4_listPresent 3 = .ok (.iconst 0, 1) := by decide +kernel
theorem dX4_listPresent_4 : decode cX4_listPresent 4 = .ok (.invokevirtual 53, 3) := by decide +kernel
theorem dX4_listPresent_7 : decode cX4_listPresent 7 = .ok (.iconst 0, 1) := by decide +kernel
theorem dX4_listPresent_8 : decode cX4_listPresent 8 = .ok (.istore_n 3, 1) := by decide +kernel
theorem dX4_listPresent_9 : decode cX4_listPresent 9 = .ok (.iload_n 3, 1) := by decide +kernel
theorem dX4_listPresent_10 : decode cX4_listPresent 10 = .ok (.aload_n 0, 1) := by decide +kernel
theorem dX4_listPresent_11 : decode cX4_listPresent 11 = .ok (.getfield 23, 3) := by decide +kernel
theorem dX4_listPresent_14 : decode cX4_listPresent 14 = .ok (.if_icmp .ge 31, 3) := by decide +kernel
theorem dX4_listPresent_17 : decode cX4_listPresent 17 = .ok (.aload_n 0, 1) := by decide +kernel
theorem dX4_listPresent_18 : decode cX4_listPresent 18 = .ok (.iload_n 3, 1) := by decide +kernel
theorem dX4_listPresent_19 : decode cX4_listPresent 19 = .ok (.invokevirtual 35, 3) := by decide +kernel
theorem dX4_listPresent_22 : decode cX4_listPresent 22 = .ok (.bipush 115, 2) := by decide +kernel
theorem dX4_listPresent_24 : decode cX4_listPresent 24 = .ok (.if_icmp .eq 6, 3) := by decide +kernel
theorem dX4_listPresent_27 : decode cX4_listPresent 27 = .ok (.goto 12, 3) := by decide +kernel
theorem dX4_listPresent_30 : decode cX4_listPresent 30 = .ok (.aload_n 1, 1) := by decide +kernel
theorem dX4_listPresent_31 : decode cX4_listPresent 31 = .ok (.iload_n 3, 1) := by decide +kernel
theorem dX4_listPresent_32 : decode cX4_listPresent 32 = .ok (.iconst 1, 1) := by decide +kernel
theorem dX4_listPresent_33 : decode cX4_listPresent 33 = .ok (.invokevirtual 27, 3) := by decide +kernel
theorem dX4_listPresent_36 : decode cX4_listPresent 36 = .ok (.iinc 2 1, 3) := by decide +kernel
theorem dX4_listPresent_39 : decode cX4_listPresent 39 = .ok (.iinc 3 1, 3) := by decide +kernel
theorem dX4_listPresent_42 : decode cX4_listPresent 42 = .ok (.goto (-33), 3) := by decide +kernel
theorem dX4_listPresent_45 : decode cX4_listPresent 45 = .ok (.iload_n 2, 1) := by decide +kernel
theorem dX4_listPresent_46 : decode cX4_listPresent 46 = .ok (.ireturn, 1) := by decide +kernel
theorem dX4_inSegments_0 : decode cX4_inSegments 0 = .ok (.iconst 0, 1) := by decide +kernel
theorem dX4_inSegments_1 : decode cX4_inSegments 1 = .ok (.istore_n 1, 1) := by decide +kernel
theorem dX4_inSegments_2 : decode cX4_inSegments 2 = .ok (.iconst 0, 1) := by decide +kernel
theorem dX4_inSegments_3 : decode cX4_inSegments 3 = .ok (.istore_n 2, 1) := by decide +kernel
theorem dX4_inSegments_4 : decode cX4_inSegments 4 = .ok (.iload_n 2, 1) := by decide +kernel
theorem dX4_inSegments_5 : decode cX4_inSegments 5 = .ok (.aload_n 0, 1) := by decide +kernel
theorem dX4_inSegments_6 : decode cX4_inSegments 6 = .ok (.getfield 23, 3) := by decide +kernel
theorem dX4_inSegments_9 : decode cX4_inSegments 9 = .ok (.if_icmp .ge 24, 3) := by decide +kernel
theorem dX4_inSegments_12 : decode cX4_inSegments 12 = .ok (.aload_n 0, 1) := by decide +kernel
theorem dX4_inSegments_13 : decode cX4_inSegments 13 = .ok (.getfield 20, 3) := by decide +kernel
theorem dX4_inSegments_16 : decode cX4_inSegments 16 = .ok (.iload_n 2, 1) := by decide +kernel
theorem dX4_inSegments_17 : decode cX4_inSegments 17 = .ok (.invokevirtual 31, 3) := by decide +kernel
theorem dX4_inSegments_20 : decode cX4_inSegments 20 = .ok (.iconst (-1), 1) := by decide +kernel
theorem dX4_inSegments_21 : decode cX4_inSegments 21 = .ok (.if_icmp .eq 6, 3) := by decide +kernel
theorem dX4_inSegments_24 : decode cX4_inSegments 24 = .ok (.iinc 1 1, 3) := by decide +kernel
theorem dX4_inSegments_27 : decode cX4_inSegments 27 = .ok (.iinc 2 1, 3) := by decide +kernel
theorem dX4_inSegments_30 : decode cX4_inSegments 30 = .ok (.goto (-26), 3) := by decide +kernel
theorem dX4_inSegments_33 : decode cX4_inSegments 33 = .ok (.iload_n 1, 1) := by decide +kernel
theorem dX4_inSegments_34 : decode cX4_inSegments 34 = .ok (.ireturn, 1) := by decide +kernel
theorem dX4_removedInSegments_0 : decode cX4_removedInSegments 0 = .ok (.iconst 0, 1) := by decide +kernel
theorem dX4_removedInSegments_1 : decode cX4_removedInSegments 1 = .ok (.istore_n 1, 1) := by decide +kernel
theorem dX4_removedInSegments_2 : decode cX4_removedInSegments 2 = .ok (.iconst 0, 1) := by decide +kernel
theorem dX4_removedInSegments_3 : decode cX4_removedInSegments 3 = .ok (.istore_n 2, 1) := by decide +kernel
theorem dX4_removedInSegments_4 : decode cX4_removedInSegments 4 = .ok (.iload_n 2, 1) := by decide +kernel
theorem dX4_removedInSegments_5 : decode cX4_removedInSegments 5 = .ok (.aload_n 0, 1) := by decide +kernel
theorem dX4_removedInSegments_6 : decode cX4_removedInSegments 6 = .ok (.getfield 23, 3) := by decide +kernel
theorem dX4_removedInSegments_9 : decode cX4_removedInSegments 9 = .ok (.if_icmp .ge 34, 3) := by decide +kernel
theorem dX4_removedInSegments_12 : decode cX4_removedInSegments 12 = .ok (.aload_n 0, 1) := by decide +kernel
theorem dX4_removedInSegments_13 : decode cX4_removedInSegments 13 = .ok (.getfield 20, 3) := by decide +kernel
theorem dX4_removedInSegments_16 : decode cX4_removedInSegments 16 = .ok (.iload_n 2, 1) := by decide +kernel
theorem dX4_removedInSegments_17 : decode cX4_removedInSegments 17 = .ok (.invokevirtual 31, 3) := by decide +kernel
theorem dX4_removedInSegments_20 : decode cX4_removedInSegments 20 = .ok (.iconst (-1), 1) := by decide +kernel
theorem dX4_removedInSegments_21 : decode cX4_removedInSegments 21 = .ok (.if_icmp .eq 16, 3) := by decide +kernel
theorem dX4_removedInSegments_24 : decode cX4_removedInSegments 24 = .ok (.aload_n 0, 1) := by decide +kernel
theorem dX4_removedInSegments_25 : decode cX4_removedInSegments 25 = .ok (.iload_n 2, 1) := by decide +kernel
theorem dX4_removedInSegments_26 : decode cX4_removedInSegments 26 = .ok (.invokevirtual 35, 3) := by decide +kernel
theorem dX4_removedInSegments_29 : decode cX4_removedInSegments 29 = .ok (.bipush 114, 2) := by decide +kernel
theorem dX4_removedInSegments_31 : decode cX4_removedInSegments 31 = .ok (.if_icmp .ne 6, 3) := by decide +kernel
theorem dX4_removedInSegments_34 : decode cX4_removedInSegments 34 = .ok (.iinc 1 1, 3) := by decide +kernel
theorem dX4_removedInSegments_37 : decode cX4_removedInSegments 37 = .ok (.iinc 2 1, 3) := by decide +kernel
theorem dX4_removedInSegments_40 : decode cX4_removedInSegments 40 = .ok (.goto (-36), 3) := by decide +kernel
theorem dX4_removedInSegments_43 : decode cX4_removedInSegments 43 = .ok (.iload_n 1, 1) := by decide +kernel
theorem dX4_removedInSegments_44 : decode cX4_removedInSegments 44 = .ok (.ireturn, 1) := by decide +kernel
theorem dX5_change_0 : decode cX5_change 0 = .ok (.aload_n 0, 1) := by decide +kernel
theorem dX5_change_1 : decode cX5_change 1 = .ok (.getfield 7, 3) := by decide +kernel
theorem dX5_change_4 : decode cX5_change 4 = .ok (.bipush 108, 2) := by decide +kernel
theorem dX5_change_6 : decode cX5_change 6 = .ok (.if_icmp .ne 7, 3) := by decide +kernel
theorem dX5_change_9 : decode cX5_change 9 = .ok (.aload_n 1, 1) := by decide +kernel
theorem dX5_change_10 : decode cX5_change 10 = .ok (.invokevirtual 26, 3) := by decide +kernel
theorem dX5_change_13 : decode cX5_change 13 = .ok (.aload_n 0, 1) := by decide +kernel
theorem dX5_change_14 : decode cX5_change 14 = .ok (.getfield 7, 3) := by decide +kernel
theorem dX5_change_17 : decode cX5_change 17 = .ok (.bipush 109, 2) := by decide +kernel
theorem dX5_change_19 : decode cX5_change 19 = .ok (.if_icmp .ne 7, 3) := by decide +kernel
theorem dX5_change_22 : decode cX5_change 22 = .ok (.aload_n 1, 1) := by decide +kernel
theorem dX5_change_23 : decode cX5_change 23 = .ok (.invokevirtual 31, 3) := by decide +kernel
theorem dX5_change_26 : decode cX5_change 26 = .ok (.aload_n 0, 1) := by decide +kernel
theorem dX5_change_27 : decode cX5_change 27 = .ok (.getfield 7, 3) := by decide +kernel
theorem dX5_change_30 : decode cX5_change 30 = .ok (.bipush 115, 2) := by decide +kernel
theorem dX5_change_32 : decode cX5_change 32 = .ok (.if_icmp .ne 11, 3) := by decide +kernel
theorem dX5_change_35 : decode cX5_change 35 = .ok (.aload_n 1, 1) := by decide +kernel
theorem dX5_change_36 : decode cX5_change 36 = .ok (.aload_n 0, 1) := by decide +kernel
theorem dX5_change_37 : decode cX5_change 37 = .ok (.getfield 13, 3) := by decide +kernel
theorem dX5_change_40 : decode cX5_change 40 = .ok (.invokevirtual 34, 3) := by decide +kernel
theorem dX5_change_43 : decode cX5_change 43 = .ok (.aload_n 0, 1) := by decide +kernel
theorem dX5_change_44 : decode cX5_change 44 = .ok (.getfield 7, 3) := by decide +kernel
theorem dX5_change_47 : decode cX5_change 47 = .ok (.bipush 99, 2) := by decide +kernel
theorem dX5_change_49 : decode cX5_change 49 = .ok (.if_icmp .ne 11, 3) := by decide +kernel
theorem dX5_change_52 : decode cX5_change 52 = .ok (.aload_n 1, 1) := by decide +kernel
theorem dX5_change_53 : decode cX5_change 53 = .ok (.aload_n 0, 1) := by decide +kernel
theorem dX5_change_54 : decode cX5_change 54 = .ok (.getfield 13, 3) := by decide +kernel
theorem dX5_change_57 : decode cX5_change 57 = .ok (.invokevirtual 38, 3) := by decide +kernel
theorem dX5_change_60 : decode cX5_change 60 = .ok (.aload_n 0, 1) := by decide +kernel
theorem dX5_change_61 : decode cX5_change 61 = .ok (.getfield 7, 3) := by decide +kernel
theorem dX5_change_64 : decode cX5_change 64 = .ok (.bipush 121, 2) := by decide +kernel
theorem dX5_change_66 : decode cX5_change 66 = .ok (.if_icmp .ne 15, 3) := by decide +kernel
theorem dX5_change_69 : decode cX5_change 69 = .ok (.aload_n 1, 1) := by decide +kernel
theorem dX5_change_70 : decode cX5_change 70 = .ok (.aload_n 0, 1) := by decide +kernel
theorem dX5_change_71 : decode cX5_change 71 = .ok (.getfield 13, 3) := by decide +kernel
theorem dX5_change_74 : decode cX5_change 74 = .ok (.aload_n 0, 1) := by decide +kernel
theorem dX5_change_75 : decode cX5_change 75 = .ok (.getfield 17, 3) := by decide +kernel
theorem dX5_change_78 : decode cX5_change 78 = .ok (.invokevirtual 41, 3) := by decide +kernel
theorem dX5_change_81 : decode cX5_change 81 = .ok (.return_, 1) := by decide +kernel
theorem dX6_init_0 : decode cX6_init 0 = .ok (.aload_n 0, 1) := by decide +kernel
theorem dX6_init_1 : decode cX6_init 1 = .ok (.invokespecial 3, 3) := by decide +kernel
theorem dX6_init_4 : decode cX6_init 4 = .ok (.aload_n 0, 1) := by decide +kernel
theorem dX6_init_5 : decode cX6_init 5 = .ok (.new 9, 3) := by decide +kernel
theorem dX6_init_8 : decode cX6_init 8 = .ok (.dup, 1) := by decide +kernel
theorem dX6_init_9 : decode cX6_init 9 = .ok (.bipush 84, 2) := by decide +kernel
theorem dX6_init_11 : decode cX6_init 11 = .ok (.invokespecial 11, 3) := by decide +kernel
theorem dX6_init_14 : decode cX6_init 14 = .ok (.putfield 14, 3) := by decide +kernel
theorem dX6_init_17 : decode cX6_init 17 = .ok (.aload_n 0, 1) := by decide +kernel
theorem dX6_init_18 : decode cX6_init 18 = .ok (.new 9, 3) := by decide +kernel
theorem dX6_init_21 : decode cX6_init 21 = .ok (.dup, 1) := by decide +kernel
theorem dX6_init_22 : decode cX6_init 22 = .ok (.bipush 84, 2) := by decide +kernel
theorem dX6_init_24 : decode cX6_init 24 = .ok (.invokespecial 11, 3) := by decide +kernel
theorem dX6_init_27 : decode cX6_init 27 = .ok (.putfield 20, 3) := by decide +kernel
theorem dX6_init_30 : decode cX6_init 30 = .ok (.aload_n 0, 1) := by decide +kernel
theorem dX6_init_31 : decode cX6_init 31 = .ok (.new 9, 3) := by decide +kernel
theorem dX6_init_34 : decode cX6_init 34 = .ok (.dup, 1) := by decide +kernel
theorem dX6_init_35 : decode cX6_init 35 = .ok (.bipush 84, 2) := by decide +kernel
theorem dX6_init_37 : decode cX6_init 37 = .ok (.invokespecial 11, 3) := by decide +kernel
theorem dX6_init_40 : decode cX6_init 40 = .ok (.putfield 23, 3) := by decide +kernel
theorem dX6_init_43 : decode cX6_init 43 = .ok (.return_, 1) := by decide +kernel
theorem dX6_append_0 : decode cX6_append 0 = .ok (.aload_n 0, 1) := by decide +kernel
theorem dX6_append_1 : decode cX6_append 1 = .ok (.getfield 26, 3) := by decide +kernel
theorem dX6_append_4 : decode cX6_append 4 = .ok (.bipush 84, 2) := by decide +kernel
theorem dX6_append_6 : decode cX6_append 6 = .ok (.if_icmp .lt 4, 3) := by decide +kernel
theorem dX6_append_9 : decode cX6_append 9 = .ok (.return_, 1) := by decide +kernel
theorem dX6_append_10 : decode cX6_append 10 = .ok (.aload_n 0, 1) := by decide +kernel
theorem dX6_append_11 : decode cX6_append 11 = .ok (.getfield 14, 3) := by decide +kernel
theorem dX6_append_14 : decode cX6_append 14 = .ok (.aload_n 0, 1) := by decide +kernel
theorem dX6_append_15 : decode cX6_append 15 = .ok (.getfield 26, 3) := by decide +kernel
theorem dX6_append_18 : decode cX6_append 18 = .ok (.iload_n 1, 1) := by decide +kernel
theorem dX6_append_19 : decode cX6_append 19 = .ok (.invokevirtual 30, 3) := by decide +kernel
theorem dX6_append_22 : decode cX6_append 22 = .ok (.aload_n 0, 1) := by decide +kernel
theorem dX6_append_23 : decode cX6_append 23 = .ok (.getfield 20, 3) := by decide +kernel
theorem dX6_append_26 : decode cX6_append 26 = .ok (.aload_n 0, 1) := by decide +kernel
theorem dX6_append_27 : decode cX6_append 27 = .ok (.getfield 26, 3) := by decide +kernel
theorem dX6_append_30 : decode cX6_append 30 = .ok (.iload_n 2, 1) := by decide +kernel
theorem dX6_append_31 : decode cX6_append 31 = .ok (.invokevirtual 30, 3) := by decide +kernel
theorem dX6_append_34 : decode cX6_append 34 = .ok (.aload_n 0, 1) := by decide +kernel
theorem dX6_append_35 : decode cX6_append 35 = .ok (.getfield 23, 3) := by decide +kernel
theorem dX6_append_38 : decode cX6_append 38 = .ok (.aload_n 0, 1) := by decide +kernel
theorem dX6_append_39 : decode cX6_append 39 = .ok (.getfield 26, 3) := by decide +kernel
theorem dX6_append_42 : decode cX6_append 42 = .ok (.iload_n 3, 1) := by decide +kernel
theorem dX6_append_43 : decode cX6_append 43 = .ok (.invokevirtual 30, 3) := by decide +kernel
theorem dX6_append_46 : decode cX6_append 46 = .ok (.aload_n 0, 1) := by decide +kernel
theorem dX6_append_47 : decode cX6_append 47 = .ok (.dup, 1) := by decide +kernel
theorem dX6_append_48 : decode cX6_append 48 = .ok (.getfield 26, 3) := by decide +kernel
theorem dX6_append_51 : decode cX6_append 51 = .ok (.iconst 1, 1) := by decide +kernel
theorem dX6_append_52 : decode cX6_append 52 = .ok (.iadd, 1) := by decide +kernel
theorem dX6_append_53 : decode cX6_append 53 = .ok (.putfield 26, 3) := by decide +kernel
theorem dX6_append_56 : decode cX6_append 56 = .ok (.return_, 1) := by decide +kernel
theorem dX6_lower_0 : decode cX6_lower 0 = .ok (.iconst 0, 1) := by decide +kernel
theorem dX6_lower_1 : decode cX6_lower 1 = .ok (.istore_n 1, 1) := by decide +kernel
theorem dX6_lower_2 : decode cX6_lower 2 = .ok (.iload_n 1, 1) := by decide +kernel
theorem dX6_lower_3 : decode cX6_lower 3 = .ok (.aload_n 0, 1) := by decide +kernel
theorem dX6_lower_4 : decode cX6_lower 4 = .ok (.getfield 26, 3) := by decide +kernel
theorem dX6_lower_7 : decode cX6_lower 7 = .ok (.if_icmp .ge 36, 3) := by decide +kernel
theorem dX6_lower_10 : decode cX6_lower 10 = .ok (.aload_n 0, 1) := by decide +kernel
theorem dX6_lower_11 : decode cX6_lower 11 = .ok (.getfield 14, 3) := by decide +kernel
theorem dX6_lower_14 : decode cX6_lower 14 = .ok (.iload_n 1, 1) := by decide +kernel
theorem dX6_lower_15 : decode cX6_lower 15 = .ok (.invokevirtual 34, 3) := by decide +kernel
theorem dX6_lower_18 : decode cX6_lower 18 = .ok (.istore_n 2, 1) := by decide +kernel
theorem dX6_lower_19 : decode cX6_lower 19 = .ok (.iload_n 2, 1) := by decide +kernel
theorem dX6_lower_20 : decode cX6_lower 20 = .ok (.bipush 30, 2) := by decide +kernel
theorem dX6_lower_22 : decode cX6_lower 22 = .ok (.if_icmp .lt 15, 3) := by decide +kernel
theorem dX6_lower_25 : decode cX6_lower 25 = .ok (.aload_n 0, 1) := by decide +kernel
theorem dX6_lower_26 : decode cX6_lower 26 = .ok (.getfield 14, 3) := by decide +kernel
theorem dX6_lower_29 : decode cX6_lower 29 = .ok (.iload_n 1, 1) := by decide +kernel
theorem dX6_lower_30 : decode cX6_lower 30 = .ok (.iload_n 2, 1) := by decide +kernel
theorem dX6_lower_31 : decode cX6_lower 31 = .ok (.bipush 30, 2) := by decide +kernel
theorem dX6_lower_33 : decode cX6_lower 33 = .ok (.isub, 1) := by decide +kernel
theorem dX6_lower_34 : decode cX6_lower 34 = .ok (.invokevirtual 30, 3) := by decide +kernel
theorem dX6_lower_37 : decode cX6_lower 37 = .ok (.iinc 1 1, 3) := by decide +kernel
theorem dX6_lower_40 : decode cX6_lower 40 = .ok (.goto (-38), 3) := by decide +kernel
theorem dX6_lower_43 : decode cX6_lower 43 = .ok (.return_, 1) := by decide +kernel
theorem dX6_makeEven_0 : decode cX6_makeEven 0 = .ok (.iconst 0, 1) := by decide +kernel
theorem dX6_makeEven_1 : decode cX6_makeEven 1 = .ok (.istore_n 1, 1) := by decide +kernel
theorem dX6_makeEven_2 : decode cX6_makeEven 2 = .ok (.iload_n 1, 1) := by decide +kernel
theorem dX6_makeEven_3 : decode cX6_makeEven 3 = .ok (.aload_n 0, 1) := by decide +kernel
theorem dX6_makeEven_4 : decode cX6_makeEven 4 = .ok (.getfield 26, 3) := by decide +kernel
theorem dX6_makeEven_7 : decode cX6_makeEven 7 = .ok (.if_icmp .ge 28, 3) := by decide +kernel
theorem dX6_makeEven_10 : decode cX6_makeEven 10 = .ok (.aload_n 0, 1) := by decide +kernel
theorem dX6_makeEven_11 : decode cX6_makeEven 11 = .ok (.getfield 14, 3) := by decide +kernel
theorem dX6_makeEven_14 : decode cX6_makeEven 14 = .ok (.iload_n 1, 1) := by decide +kernel
theorem dX6_makeEven_15 : decode cX6_makeEven 15 = .ok (.aload_n 0, 1) := by decide +kernel
theorem dX6_makeEven_16 : decode cX6_makeEven 16 = .ok (.getfield 14, 3) := by decide +kernel
theorem dX6_makeEven_19 : decode cX6_makeEven 19 = .ok (.iload_n 1, 1) := by decide +kernel
theorem dX6_makeEven_20 : decode cX6_makeEven 20 = .ok (.invokevirtual 34, 3) := by decide +kernel
theorem dX6_makeEven_23 : decode cX6_makeEven 23 = .ok (.bipush (-2), 2) := by decide +kernel
theorem dX6_makeEven_25 : decode cX6_makeEven 25 = .ok (.iand, 1) := by decide +kernel
theorem dX6_makeEven_26 : decode cX6_makeEven 26 = .ok (.invokevirtual 30, 3) := by decide +kernel
theorem dX6_makeEven_29 : decode cX6_makeEven 29 = .ok (.iinc 1 1, 3) := by decide +kernel
theorem dX6_makeEven_32 : decode cX6_makeEven 32 = .ok (.goto (-30), 3) := by decide +kernel
theorem dX6_makeEven_35 : decode cX6_makeEven 35 = .ok (.return_, 1) := by decide +kernel
theorem dX6_takeOut_0 : decode cX6_takeOut 0 = .ok (.iconst 0, 1) := by decide +kernel
theorem dX6_takeOut_1 : decode cX6_takeOut 1 = .ok (.istore_n 2, 1) := by decide +kernel
theorem dX6_takeOut_2 : decode cX6_takeOut 2 = .ok (.iconst 0, 1) := by decide +kernel
theorem dX6_takeOut_3 : decode cX6_takeOut 3 = .ok (.istore_n 3, 1) := by decide +kernel
theorem dX6_takeOut_4 : decode cX6_takeOut 4 = .ok (.iload_n 3, 1) := by decide +kernel
theorem dX6_takeOut_5 : decode cX6_takeOut 5 = .ok (.aload_n 0, 1) := by decide +kernel
theorem dX6_takeOut_6 : decode cX6_takeOut 6 = .ok (.getfield 26, 3) := by decide +kernel
theorem dX6_takeOut_9 : decode cX6_takeOut 9 = .ok (.if_icmp .ge 75, 3) := by decide +kernel
theorem dX6_takeOut_12 : decode cX6_takeOut 12 = .ok (.aload_n 0, 1) := by decide +kernel
theorem dX6_takeOut_13 : decode cX6_takeOut 13 = .ok (.getfield 14, 3) := by decide +kernel
theorem dX6_takeOut_16 : decode cX6_takeOut 16 = .ok (.iload_n 3, 1) := by decide +kernel
theorem dX6_takeOut_17 : decode cX6_takeOut 17 = .ok (.invokevirtual 34, 3) := by decide +kernel
theorem dX6_takeOut_20 : decode cX6_takeOut 20 = .ok (.iload_n 1, 1) := by decide +kernel
theorem dX6_takeOut_21 : decode cX6_takeOut 21 = .ok (.if_icmp .ne 6, 3) := by decide +kernel
theorem dX6_takeOut_24 : decode cX6_takeOut 24 = .ok (.goto 54, 3) := by decide +kernel
theorem dX6_takeOut_27 : decode cX6_takeOut 27 = .ok (.aload_n 0, 1) := by decide +kernel
theorem dX6_takeOut_28 : decode cX6_takeOut 28 = .ok (.getfield 14, 3) := by decide +kernel
theorem dX6_takeOut_31 : decode cX6_takeOut 31 = .ok (.iload_n 2, 1) := by decide +kernel
theorem dX6_takeOut_32 : decode cX6_takeOut 32 = .ok (.aload_n 0, 1) := by decide +kernel
theorem dX6_takeOut_33 : decode cX6_takeOut 33 = .ok (.getfield 14, 3) := by decide +kernel
theorem dX6_takeOut_36 : decode cX6_takeOut 36 = .ok (.iload_n 3, 1) := by decide +kernel
theorem dX6_takeOut_37 : decode cX6_takeOut 37 = .ok (.invokevirtual 34, 3) := by decide +kernel
theorem dX6_takeOut_40 : decode cX6_takeOut 40 = .ok (.invokevirtual 30, 3) := by decide +kernel
theorem dX6_takeOut_43 : decode cX6_takeOut 43 = .ok (.aload_n 0, 1) := by decide +kernel
theorem dX6_takeOut_44 : decode cX6_takeOut 44 = .ok (.getfield 20, 3) := by decide +kernel
theorem dX6_takeOut_47 : decode cX6_takeOut 47 = .ok (.iload_n 2, 1) := by decide +kernel
theorem dX6_takeOut_48 : decode cX6_takeOut 48 = .ok (.aload_n 0, 1) := by decide +kernel
theorem dX6_takeOut_49 : decode cX6_takeOut 49 = .ok (.getfield 20, 3) := by decide +kernel
theorem dX6_takeOut_52 : decode cX6_takeOut 52 = .ok (.iload_n 3, 1) := by decide +kernel
theorem dX6_takeOut_53 : decode cX6_takeOut 53 = .ok (.invokevirtual 34, 3) := by decide +kernel
theorem dX6_takeOut_56 : decode cX6_takeOut 56 = .ok (.invokevirtual 30, 3) := by decide +kernel
theorem dX6_takeOut_59 : decode cX6_takeOut 59 = .ok (.aload_n 0, 1) := by decide +kernel
theorem dX6_takeOut_60 : decode cX6_takeOut 60 = .ok (.getfield 23, 3) := by decide +kernel
theorem dX6_takeOut_63 : decode cX6_takeOut 63 = .ok (.iload_n 2, 1) := by decide +kernel
theorem dX6_takeOut_64 : decode cX6_takeOut 64 = .ok (.aload_n 0, 1) := by decide +kernel
theorem dX6_takeOut_65 : decode cX6_takeOut 65 = .ok (.getfield 23, 3) := by decide +kernel
theorem dX6_takeOut_68 : decode cX6_takeOut 68 = .ok (.iload_n 3, 1) := by decide +kernel
theorem dX6_takeOut_69 : decode cX6_takeOut 69 = .ok (.invokevirtual 34, 3) := by decide +kernel
theorem dX6_takeOut_72 : decode cX6_takeOut 72 = .ok (.invokevirtual 30, 3) := by decide +kernel
theorem dX6_takeOut_75 : decode cX6_takeOut 75 = .ok (.iinc 2 1, 3) := by decide +kernel
theorem dX6_takeOut_78 : decode cX6_takeOut 78 = .ok (.iinc 3 1, 3) := by decide +kernel
theorem dX6_takeOut_81 : decode cX6_takeOut 81 = .ok (.goto (-77), 3) := by decide +kernel
theorem dX6_takeOut_84 : decode cX6_takeOut 84 = .ok (.aload_n 0, 1) := by decide +kernel
theorem dX6_takeOut_85 : decode cX6_takeOut 85 = .ok (.iload_n 2, 1) := by decide +kernel
theorem dX6_takeOut_86 : decode cX6_takeOut 86 = .ok (.putfield 26, 3) := by decide +kernel
theorem dX6_takeOut_89 : decode cX6_takeOut 89 = .ok (.return_, 1) := by decide +kernel
theorem dX6_closeUp_0 : decode cX6_closeUp 0 = .ok (.iconst 0, 1) := by decide +kernel
theorem dX6_closeUp_1 : decode cX6_closeUp 1 = .ok (.istore_n 2, 1) := by decide +kernel
theorem dX6_closeUp_2 : decode cX6_closeUp 2 = .ok (.iload_n 2, 1) := by decide +kernel
theorem dX6_closeUp_3 : decode cX6_closeUp 3 = .ok (.aload_n 0, 1) := by decide +kernel
theorem dX6_closeUp_4 : decode cX6_closeUp 4 = .ok (.getfield 26, 3) := by decide +kernel
theorem dX6_closeUp_7 : decode cX6_closeUp 7 = .ok (.if_icmp .ge 46, 3) := by decide +kernel
theorem dX6_closeUp_10 : decode cX6_closeUp 10 = .ok (.aload_n 0, 1) := by decide +kernel
theorem dX6_closeUp_11 : decode cX6_closeUp 11 = .ok (.getfield 20, 3) := by decide +kernel
theorem dX6_closeUp_14 : decode cX6_closeUp 14 = .ok (.iload_n 2, 1) := by decide +kernel
theorem dX6_closeUp_15 : decode cX6_closeUp 15 = .ok (.invokevirtual 34, 3) := by decide +kernel
theorem dX6_closeUp_18 : decode cX6_closeUp 18 = .ok (.istore_n 3, 1) := by decide +kernel
theorem dX6_closeUp_19 : decode cX6_closeUp 19 = .ok (.aload_n 0, 1) := by decide +kernel
theorem dX6_closeUp_20 : decode cX6_closeUp 20 = .ok (.getfield 14, 3) := by decide +kernel
theorem dX6_closeUp_23 : decode cX6_closeUp 23 = .ok (.iload_n 2, 1) := by decide +kernel
theorem dX6_closeUp_24 : decode cX6_closeUp 24 = .ok (.invokevirtual 34, 3) := by decide +kernel
theorem dX6_closeUp_27 : decode cX6_closeUp 27 = .ok (.iload_n 1, 1) := by decide +kernel
theorem dX6_closeUp_28 : decode cX6_closeUp 28 = .ok (.if_icmp .eq 19, 3) := by decide +kernel
theorem dX6_closeUp_31 : decode cX6_closeUp 31 = .ok (.aload_n 0, 1) := by decide +kernel
theorem dX6_closeUp_32 : decode cX6_closeUp 32 = .ok (.getfield 20, 3) := by decide +kernel
theorem dX6_closeUp_35 : decode cX6_closeUp 35 = .ok (.iload_n 2, 1) := by decide +kernel
theorem dX6_closeUp_36 : decode cX6_closeUp 36 = .ok (.iload_n 3, 1) := by decide +kernel
theorem dX6_closeUp_37 : decode cX6_closeUp 37 = .ok (.aload_n 0, 1) := by decide +kernel
theorem dX6_closeUp_38 : decode cX6_closeUp 38 = .ok (.iload_n 3, 1) := by decide +kernel
theorem dX6_closeUp_39 : decode cX6_closeUp 39 = .ok (.iload_n 1, 1) := by decide +kernel
theorem dX6_closeUp_40 : decode cX6_closeUp 40 = .ok (.invokevirtual 38, 3) := by decide +kernel
theorem dX6_closeUp_43 : decode cX6_closeUp 43 = .ok (.isub, 1) := by decide +kernel
theorem dX6_closeUp_44 : decode cX6_closeUp 44 = .ok (.invokevirtual 30, 3) := by decide +kernel
theorem dX6_closeUp_47 : decode cX6_closeUp 47 = .ok (.iinc 2 1, 3) := by decide +kernel
theorem dX6_closeUp_50 : decode cX6_closeUp 50 = .ok (.goto (-48), 3) := by decide +kernel
theorem dX6_closeUp_53 : decode cX6_closeUp 53 = .ok (.aload_n 0, 1) := by decide +kernel
theorem dX6_closeUp_54 : decode cX6_closeUp 54 = .ok (.iload_n 1, 1) := by decide +kernel
theorem dX6_closeUp_55 : decode cX6_closeUp 55 = .ok (.invokevirtual 42, 3) := by decide +kernel
theorem dX6_closeUp_58 : decode cX6_closeUp 58 = .ok (.return_, 1) := by decide +kernel
theorem dX6_putBeside_0 : decode cX6_putBeside 0 = .ok (.aload_n 0, 1) := by decide +kernel
theorem dX6_putBeside_1 : decode cX6_putBeside 1 = .ok (.getfield 26, 3) := by decide +kernel
theorem dX6_putBeside_4 : decode cX6_putBeside 4 = .ok (.istore_n 3, 1) := by decide +kernel
theorem dX6_putBeside_5 : decode cX6_putBeside 5 = .ok (.iconst 0, 1) := by decide +kernel
theorem dX6_putBeside_6 : decode cX6_putBeside 6 = .ok (.istore 4, 2) := by decide +kernel
theorem dX6_putBeside_8 : decode cX6_putBeside 8 = .ok (.iload 4, 2) := by decide +kernel
theorem dX6_putBeside_10 : decode cX6_putBeside 10 = .ok (.iload_n 3, 1) := by decide +kernel
theorem dX6_putBeside_11 : decode cX6_putBeside 11 = .ok (.if_icmp .ge 57, 3) := by decide +kernel
theorem dX6_putBeside_14 : decode cX6_putBeside 14 = .ok (.aload_n 0, 1) := by decide +kernel
theorem dX6_putBeside_15 : decode cX6_putBeside 15 = .ok (.getfield 20, 3) := by decide +kernel
theorem dX6_putBeside_18 : decode cX6_putBeside 18 = .ok (.iload 4, 2) := by decide +kernel
theorem dX6_putBeside_20 : decode cX6_putBeside 20 = .ok (.invokevirtual 34, 3) := by decide +kernel
theorem dX6_putBeside_23 : decode cX6_putBeside 23 = .ok (.istore 5, 2) := by decide +kernel
theorem dX6_putBeside_25 : decode cX6_putBeside 25 = .ok (.aload_n 0, 1) := by decide +kernel
theorem dX6_putBeside_26 : decode cX6_putBeside 26 = .ok (.getfield 14, 3) := by decide +kernel
theorem dX6_putBeside_29 : decode cX6_putBeside 29 = .ok (.iload 4, 2) := by decide +kernel
theorem dX6_putBeside_31 : decode cX6_putBeside 31 = .ok (.invokevirtual 34, 3) := by decide +kernel
theorem dX6_putBeside_34 : decode cX6_putBeside 34 = .ok (.iload_n 1, 1) := by decide +kernel
theorem dX6_putBeside_35 : decode cX6_putBeside 35 = .ok (.if_icmp .ne 27, 3) := by decide +kernel
theorem dX6_putBeside_38 : decode cX6_putBeside 38 = .ok (.aload_n 0, 1) := by decide +kernel
theorem dX6_putBeside_39 : decode cX6_putBeside 39 = .ok (.iload 5, 2) := by decide +kernel
theorem dX6_putBeside_41 : decode cX6_putBeside 41 = .ok (.iload_n 2, 1) := by decide +kernel
theorem dX6_putBeside_42 : decode cX6_putBeside 42 = .ok (.invokevirtual 45, 3) := by decide +kernel
theorem dX6_putBeside_45 : decode cX6_putBeside 45 = .ok (.ifCond .ne 17, 3) := by decide +kernel
theorem dX6_putBeside_48 : decode cX6_putBeside 48 = .ok (.aload_n 0, 1) := by decide +kernel
theorem dX6_putBeside_49 : decode cX6_putBeside 49 = .ok (.iload_n 2, 1) := by decide +kernel
theorem dX6_putBeside_50 : decode cX6_putBeside 50 = .ok (.iload 5, 2) := by decide +kernel
theorem dX6_putBeside_52 : decode cX6_putBeside 52 = .ok (.aload_n 0, 1) := by decide +kernel
theorem dX6_putBeside_53 : decode cX6_putBeside 53 = .ok (.iload 5, 2) := by decide +kernel
theorem dX6_putBeside_55 : decode cX6_putBeside 55 = .ok (.iload_n 1, 1) := by decide +kernel
theorem dX6_putBeside_56 : decode cX6_putBeside 56 = .ok (.invokevirtual 48, 3) := by decide +kernel
theorem dX6_putBeside_59 : decode cX6_putBeside 59 = .ok (.invokevirtual 51, 3) := by decide +kernel
theorem dX6_putBeside_62 : decode cX6_putBeside 62 = .ok (.iinc 4 1, 3) := by decide +kernel
theorem dX6_putBeside_65 : decode cX6_putBeside 65 = .ok (.goto (-57), 3) := by decide +kernel
theorem dX6_putBeside_68 : decode cX6_putBeside 68 = .ok (.return_, 1) := by decide +kernel
theorem dX6_times_0 : decode cX6_times 0 = .ok (.iconst 0, 1) := by decide +kernel
theorem dX6_times_1 : decode cX6_times 1 = .ok (.istore_n 2, 1) := by decide +kernel
theorem dX6_times_2 : decode cX6_times 2 = .ok (.iconst 0, 1) := by decide +kernel
theorem dX6_times_3 : decode cX6_times 3 = .ok (.istore_n 3, 1) := by decide +kernel
theorem dX6_times_4 : decode cX6_times 4 = .ok (.iload_n 3, 1) := by decide +kernel
theorem dX6_times_5 : decode cX6_times 5 = .ok (.aload_n 0, 1) := by decide +kernel
theorem dX6_times_6 : decode cX6_times 6 = .ok (.getfield 26, 3) := by decide +kernel
theorem dX6_times_9 : decode cX6_times 9 = .ok (.if_icmp .ge 24, 3) := by decide +kernel
theorem dX6_times_12 : decode cX6_times 12 = .ok (.aload_n 0, 1) := by decide +kernel
theorem dX6_times_13 : decode cX6_times 13 = .ok (.getfield 14, 3) := by decide +kernel
theorem dX6_times_16 : decode cX6_times 16 = .ok (.iload_n 3, 1) := by decide +kernel
theorem dX6_times_17 : decode cX6_times 17 = .ok (.invokevirtual 34, 3) := by decide +kernel
theorem dX6_times_20 : decode cX6_times 20 = .ok (.iload_n 1, 1) := by decide +kernel
theorem dX6_times_21 : decode cX6_times 21 = .ok (.if_icmp .ne 6, 3) := by decide +kernel
theorem dX6_times_24 : decode cX6_times 24 = .ok (.iinc 2 1, 3) := by decide +kernel
theorem dX6_times_27 : decode cX6_times 27 = .ok (.iinc 3 1, 3) := by decide +kernel
theorem dX6_times_30 : decode cX6_times 30 = .ok (.goto (-26), 3) := by decide +kernel
theorem dX6_times_33 : decode cX6_times 33 = .ok (.iload_n 2, 1) := by decide +kernel
theorem dX6_times_34 : decode cX6_times 34 = .ok (.ireturn, 1) := by decide +kernel
theorem dX6_timesAt_0 : decode cX6_timesAt 0 = .ok (.iconst 0, 1) := by decide +kernel
theorem dX6_timesAt_1 : decode cX6_timesAt 1 = .ok (.istore_n 3, 1) := by decide +kernel
theorem dX6_timesAt_2 : decode cX6_timesAt 2 = .ok (.iconst 0, 1) := by decide +kernel
theorem dX6_timesAt_3 : decode cX6_timesAt 3 = .ok (.istore 4, 2) := by decide +kernel
theorem dX6_timesAt_5 : decode cX6_timesAt 5 = .ok (.iload 4, 2) := by decide +kernel
theorem dX6_timesAt_7 : decode cX6_timesAt 7 = .ok (.aload_n 0, 1) := by decide +kernel
theorem dX6_timesAt_8 : decode cX6_timesAt 8 = .ok (.getfield 26, 3) := by decide +kernel
theorem dX6_timesAt_11 : decode cX6_timesAt 11 = .ok (.if_icmp .ge 38, 3) := by decide +kernel
theorem dX6_timesAt_14 : decode cX6_timesAt 14 = .ok (.aload_n 0, 1) := by decide +kernel
theorem dX6_timesAt_15 : decode cX6_timesAt 15 = .ok (.getfield 14, 3) := by decide +kernel
theorem dX6_timesAt_18 : decode cX6_timesAt 18 = .ok (.iload 4, 2) := by decide +kernel
theorem dX6_timesAt_20 : decode cX6_timesAt 20 = .ok (.invokevirtual 34, 3) := by decide +kernel
theorem dX6_timesAt_23 : decode cX6_timesAt 23 = .ok (.iload_n 2, 1) := by decide +kernel
theorem dX6_timesAt_24 : decode cX6_timesAt 24 = .ok (.if_icmp .ne 19, 3) := by decide +kernel
theorem dX6_timesAt_27 : decode cX6_timesAt 27 = .ok (.aload_n 0, 1) := by decide +kernel
theorem dX6_timesAt_28 : decode cX6_timesAt 28 = .ok (.getfield 20, 3) := by decide +kernel
theorem dX6_timesAt_31 : decode cX6_timesAt 31 = .ok (.iload 4, 2) := by decide +kernel
theorem dX6_timesAt_33 : decode cX6_timesAt 33 = .ok (.invokevirtual 34, 3) := by decide +kernel
theorem dX6_timesAt_36 : decode cX6_timesAt 36 = .ok (.iload_n 1, 1) := by decide +kernel
theorem dX6_timesAt_37 : decode cX6_timesAt 37 = .ok (.if_icmp .ne 6, 3) := by decide +kernel
theorem dX6_timesAt_40 : decode cX6_timesAt 40 = .ok (.iinc 3 1, 3) := by decide +kernel
theorem dX6_timesAt_43 : decode cX6_timesAt 43 = .ok (.iinc 4 1, 3) := by decide +kernel
theorem dX6_timesAt_46 : decode cX6_timesAt 46 = .ok (.goto (-41), 3) := by decide +kernel
theorem dX6_timesAt_49 : decode cX6_timesAt 49 = .ok (.iload_n 3, 1) := by decide +kernel
theorem dX6_timesAt_50 : decode cX6_timesAt 50 = .ok (.ireturn, 1) := by decide +kernel
theorem dX6_isFirstAtPlace_0 : decode cX6_isFirstAtPlace 0 = .ok (.iconst 0, 1) := by decide +kernel
theorem dX6_isFirstAtPlace_1 : decode cX6_isFirstAtPlace 1 = .ok (.istore_n 2, 1) := by decide +kernel
theorem dX6_isFirstAtPlace_2 : decode cX6_isFirstAtPlace 2 = .ok (.iload_n 2, 1) := by decide +kernel
theorem dX6_isFirstAtPlace_3 : decode cX6_isFirstAtPlace 3 = .ok (.iload_n 1, 1) := by decide +kernel
theorem dX6_isFirstAtPlace_4 : decode cX6_isFirstAtPlace 4 = .ok (.if_icmp .ge 49, 3) := by decide +kernel
theorem dX6_isFirstAtPlace_7 : decode cX6_isFirstAtPlace 7 = .ok (.aload_n 0, 1) := by decide +kernel
theorem dX6_isFirstAtPlace_8 : decode cX6_isFirstAtPlace 8 = .ok (.getfield 14, 3) := by decide +kernel
theorem dX6_isFirstAtPlace_11 : decode cX6_isFirstAtPlace 11 = .ok (.iload_n 2, 1) := by decide +kernel
theorem dX6_isFirstAtPlace_12 : decode cX6_isFirstAtPlace 12 = .ok (.invokevirtual 34, 3) := by decide +kernel
theorem dX6_isFirstAtPlace_15 : decode cX6_isFirstAtPlace 15 = .ok (.aload_n 0, 1) := by decide +kernel
theorem dX6_isFirstAtPlace_16 : decode cX6_isFirstAtPlace 16 = .ok (.getfield 14, 3) := by decide +kernel
theorem dX6_isFirstAtPlace_19 : decode cX6_isFirstAtPlace 19 = .ok (.iload_n 1, 1) := by decide +kernel
theorem dX6_isFirstAtPlace_20 : decode cX6_isFirstAtPlace 20 = .ok (.invokevirtual 34, 3) := by decide +kernel
theorem dX6_isFirstAtPlace_23 : decode cX6_isFirstAtPlace 23 = .ok (.if_icmp .ne 24, 3) := by decide +kernel
theorem dX6_isFirstAtPlace_26 : decode cX6_isFirstAtPlace 26 = .ok (.aload_n 0, 1) := by decide +kernel
theorem dX6_isFirstAtPlace_27 : decode cX6_isFirstAtPlace 27 = .ok (.getfield 20, 3) := by decide +kernel
theorem dX6_isFirstAtPlace_30 : decode cX6_isFirstAtPlace 30 = .ok (.iload_n 2, 1) := by decide +kernel
theorem dX6_isFirstAtPlace_31 : decode cX6_isFirstAtPlace 31 = .ok (.invokevirtual 34, 3) := by decide +kernel
theorem dX6_isFirstAtPlace_34 : decode cX6_isFirstAtPlace 34 = .ok (.aload_n 0, 1) := by decide +kernel
theorem dX6_isFirstAtPlace_35 : decode cX6_isFirstAtPlace 35 = .ok (.getfield 20, 3) := by decide +kernel
theorem dX6_isFirstAtPlace_38 : decode cX6_isFirstAtPlace 38 = .ok (.iload_n 1, 1) := by decide +kernel
theorem dX6_isFirstAtPlace_39 : decode cX6_isFirstAtPlace 39 = .ok (.invokevirtual 34, 3) := by decide +kernel
theorem dX6_isFirstAtPlace_42 : decode cX6_isFirstAtPlace 42 = .ok (.if_icmp .ne 5, 3) := by decide +kernel
theorem dX6_isFirstAtPlace_45 : decode cX6_isFirstAtPlace 45 = .ok (.iconst 0, 1) := by decide +kernel
theorem dX6_isFirstAtPlace_46 : decode cX6_isFirstAtPlace 46 = .ok (.ireturn, 1) := by decide +kernel
theorem dX6_isFirstAtPlace_47 : decode cX6_isFirstAtPlace 47 = .ok (.iinc 2 1, 3) := by decide +kernel
theorem dX6_isFirstAtPlace_50 : decode cX6_isFirstAtPlace 50 = .ok (.goto (-48), 3) := by decide +kernel
theorem dX6_isFirstAtPlace_53 : decode cX6_isFirstAtPlace 53 = .ok (.iconst 1, 1) := by decide +kernel
theorem dX6_isFirstAtPlace_54 : decode cX6_isFirstAtPlace 54 = .ok (.ireturn, 1) := by decide +kernel
theorem dX6_timesAhead_0 : decode cX6_timesAhead 0 = .ok (.iconst 0, 1) := by decide +kernel
theorem dX6_timesAhead_1 : decode cX6_timesAhead 1 = .ok (.istore_n 3, 1) := by decide +kernel
theorem dX6_timesAhead_2 : decode cX6_timesAhead 2 = .ok (.iconst 0, 1) := by decide +kernel
theorem dX6_timesAhead_3 : decode cX6_timesAhead 3 = .ok (.istore 4, 2) := by decide +kernel
theorem dX6_timesAhead_5 : decode cX6_timesAhead 5 = .ok (.iload 4, 2) := by decide +kernel
theorem dX6_timesAhead_7 : decode cX6_timesAhead 7 = .ok (.aload_n 0, 1) := by decide +kernel
theorem dX6_timesAhead_8 : decode cX6_timesAhead 8 = .ok (.getfield 26, 3) := by decide +kernel
theorem dX6_timesAhead_11 : decode cX6_timesAhead 11 = .ok (.if_icmp .ge 38, 3) := by decide +kernel
theorem dX6_timesAhead_14 : decode cX6_timesAhead 14 = .ok (.aload_n 0, 1) := by decide +kernel
theorem dX6_timesAhead_15 : decode cX6_timesAhead 15 = .ok (.getfield 14, 3) := by decide +kernel
theorem dX6_timesAhead_18 : decode cX6_timesAhead 18 = .ok (.iload 4, 2) := by decide +kernel
theorem dX6_timesAhead_20 : decode cX6_timesAhead 20 = .ok (.invokevirtual 34, 3) := by decide +kernel
theorem dX6_timesAhead_23 : decode cX6_timesAhead 23 = .ok (.iload_n 2, 1) := by decide +kernel
theorem dX6_timesAhead_24 : decode cX6_timesAhead 24 = .ok (.if_icmp .ne 19, 3) := by decide +kernel
theorem dX6_timesAhead_27 : decode cX6_timesAhead 27 = .ok (.aload_n 0, 1) := by decide +kernel
theorem dX6_timesAhead_28 : decode cX6_timesAhead 28 = .ok (.getfield 20, 3) := by decide +kernel
theorem dX6_timesAhead_31 : decode cX6_timesAhead 31 = .ok (.iload 4, 2) := by decide +kernel
theorem dX6_timesAhead_33 : decode cX6_timesAhead 33 = .ok (.invokevirtual 34, 3) := by decide +kernel
theorem dX6_timesAhead_36 : decode cX6_timesAhead 36 = .ok (.iload_n 1, 1) := by decide +kernel
theorem dX6_timesAhead_37 : decode cX6_timesAhead 37 = .ok (.if_icmp .ge 6, 3) := by decide +kernel
theorem dX6_timesAhead_40 : decode cX6_timesAhead 40 = .ok (.iinc 3 1, 3) := by decide +kernel
theorem dX6_timesAhead_43 : decode cX6_timesAhead 43 = .ok (.iinc 4 1, 3) := by decide +kernel
theorem dX6_timesAhead_46 : decode cX6_timesAhead 46 = .ok (.goto (-41), 3) := by decide +kernel
theorem dX6_timesAhead_49 : decode cX6_timesAhead 49 = .ok (.iload_n 3, 1) := by decide +kernel
theorem dX6_timesAhead_50 : decode cX6_timesAhead 50 = .ok (.ireturn, 1) := by decide +kernel
theorem dX6_firstIndexAt_0 : decode cX6_firstIndexAt 0 = .ok (.bipush 12, 2) := by decide +kernel
theorem dX6_firstIndexAt_2 : decode cX6_firstIndexAt 2 = .ok (.istore_n 3, 1) := by decide +kernel
theorem dX6_firstIndexAt_3 : decode cX6_firstIndexAt 3 = .ok (.iconst 0, 1) := by decide +kernel
theorem dX6_firstIndexAt_4 : decode cX6_firstIndexAt 4 = .ok (.istore 4, 2) := by decide +kernel
theorem dX6_firstIndexAt_6 : decode cX6_firstIndexAt 6 = .ok (.iload 4, 2) := by decide +kernel
theorem dX6_firstIndexAt_8 : decode cX6_firstIndexAt 8 = .ok (.aload_n 0, 1) := by decide +kernel
theorem dX6_firstIndexAt_9 : decode cX6_firstIndexAt 9 = .ok (.getfield 26, 3) := by decide +kernel
theorem dX6_firstIndexAt_12 : decode cX6_firstIndexAt 12 = .ok (.if_icmp .ge 70, 3) := by decide +kernel
theorem dX6_firstIndexAt_15 : decode cX6_firstIndexAt 15 = .ok (.aload_n 0, 1) := by decide +kernel
theorem dX6_firstIndexAt_16 : decode cX6_firstIndexAt 16 = .ok (.getfield 14, 3) := by decide +kernel
theorem dX6_firstIndexAt_19 : decode cX6_firstIndexAt 19 = .ok (.iload 4, 2) := by decide +kernel
theorem dX6_firstIndexAt_21 : decode cX6_firstIndexAt 21 = .ok (.invokevirtual 34, 3) := by decide +kernel
theorem dX6_firstIndexAt_24 : decode cX6_firstIndexAt 24 = .ok (.iload_n 2, 1) := by decide +kernel
theorem dX6_firstIndexAt_25 : decode cX6_firstIndexAt 25 = .ok (.if_icmp .ne 20, 3) := by decide +kernel
theorem dX6_firstIndexAt_28 : decode cX6_firstIndexAt 28 = .ok (.aload_n 0, 1) := by decide +kernel
theorem dX6_firstIndexAt_29 : decode cX6_firstIndexAt 29 = .ok (.getfield 20, 3) := by decide +kernel
theorem dX6_firstIndexAt_32 : decode cX6_firstIndexAt 32 = .ok (.iload 4, 2) := by decide +kernel
theorem dX6_firstIndexAt_34 : decode cX6_firstIndexAt 34 = .ok (.invokevirtual 34, 3) := by decide +kernel
theorem dX6_firstIndexAt_37 : decode cX6_firstIndexAt 37 = .ok (.iload_n 1, 1) := by decide +kernel
theorem dX6_firstIndexAt_38 : decode cX6_firstIndexAt 38 = .ok (.if_icmp .ne 7, 3) := by decide +kernel
theorem dX6_firstIndexAt_41 : decode cX6_firstIndexAt 41 = .ok (.iconst 1, 1) := by decide +kernel
theorem dX6_firstIndexAt_42 : decode cX6_firstIndexAt 42 = .ok (.goto 4, 3) := by decide +kernel
theorem dX6_firstIndexAt_45 : decode cX6_firstIndexAt 45 = .ok (.iconst 0, 1) := by decide +kernel
theorem dX6_firstIndexAt_46 : decode cX6_firstIndexAt 46 = .ok (.istore 5, 2) := by decide +kernel
theorem dX6_firstIndexAt_48 : decode cX6_firstIndexAt 48 = .ok (.iload 5, 2) := by decide +kernel
theorem dX6_firstIndexAt_50 : decode cX6_firstIndexAt 50 = .ok (.ifCond .eq 26, 3) := by decide +kernel
theorem dX6_firstIndexAt_53 : decode cX6_firstIndexAt 53 = .ok (.aload_n 0, 1) := by decide +kernel
theorem dX6_firstIndexAt_54 : decode cX6_firstIndexAt 54 = .ok (.getfield 23, 3) := by decide +kernel
theorem dX6_firstIndexAt_57 : decode cX6_firstIndexAt 57 = .ok (.iload 4, 2) := by decide +kernel
theorem dX6_firstIndexAt_59 : decode cX6_firstIndexAt 59 = .ok (.invokevirtual 34, 3) := by decide +kernel
theorem dX6_firstIndexAt_62 : decode cX6_firstIndexAt 62 = .ok (.iload_n 3, 1) := by decide +kernel
theorem dX6_firstIndexAt_63 : decode cX6_firstIndexAt 63 = .ok (.if_icmp .ge 13, 3) := by decide +kernel
theorem dX6_firstIndexAt_66 : decode cX6_firstIndexAt 66 = .ok (.aload_n 0, 1) := by decide +kernel
theorem dX6_firstIndexAt_67 : decode cX6_firstIndexAt 67 = .ok (.getfield 23, 3) := by decide +kernel
theorem dX6_firstIndexAt_70 : decode cX6_firstIndexAt 70 = .ok (.iload 4, 2) := by decide +kernel
theorem dX6_firstIndexAt_72 : decode cX6_firstIndexAt 72 = .ok (.invokevirtual 34, 3) := by decide +kernel
theorem dX6_firstIndexAt_75 : decode cX6_firstIndexAt 75 = .ok (.istore_n 3, 1) := by decide +kernel
theorem dX6_firstIndexAt_76 : decode cX6_firstIndexAt 76 = .ok (.iinc 4 1, 3) := by decide +kernel
theorem dX6_firstIndexAt_79 : decode cX6_firstIndexAt 79 = .ok (.goto (-73), 3) := by decide +kernel
theorem dX6_firstIndexAt_82 : decode cX6_firstIndexAt 82 = .ok (.iload_n 3, 1) := by decide +kernel
theorem dX6_firstIndexAt_83 : decode cX6_firstIndexAt 83 = .ok (.ireturn, 1) := by decide +kernel
theorem dX7_init_0 : decode cX7_init 0 = .ok (.aload_n 0, 1) := by decide +kernel
theorem dX7_init_1 : decode cX7_init 1 = .ok (.invokespecial 1, 3) := by decide +kernel
theorem dX7_init_4 : decode cX7_init 4 = .ok (.aload_n 0, 1) := by decide +kernel
theorem dX7_init_5 : decode cX7_init 5 = .ok (.iload_n 1, 1) := by decide +kernel
theorem dX7_init_6 : decode cX7_init 6 = .ok (.putfield 7, 3) := by decide +kernel
theorem dX7_init_9 : decode cX7_init 9 = .ok (.aload_n 0, 1) := by decide +kernel
theorem dX7_init_10 : decode cX7_init 10 = .ok (.aload_n 2, 1) := by decide +kernel
theorem dX7_init_11 : decode cX7_init 11 = .ok (.putfield 13, 3) := by decide +kernel
theorem dX7_init_14 : decode cX7_init 14 = .ok (.aload_n 0, 1) := by decide +kernel
theorem dX7_init_15 : decode cX7_init 15 = .ok (.iload_n 3, 1) := by decide +kernel
theorem dX7_init_16 : decode cX7_init 16 = .ok (.putfield 17, 3) := by decide +kernel
theorem dX7_init_19 : decode cX7_init 19 = .ok (.return_, 1) := by decide +kernel
theorem dX7_sees_0 : decode cX7_sees 0 = .ok (.aload_n 0, 1) := by decide +kernel
theorem dX7_sees_1 : decode cX7_sees 1 = .ok (.getfield 13, 3) := by decide +kernel
theorem dX7_sees_4 : decode cX7_sees 4 = .ok (.iload_n 1, 1) := by decide +kernel
theorem dX7_sees_5 : decode cX7_sees 5 = .ok (.invokevirtual 20, 3) := by decide +kernel
theorem dX7_sees_8 : decode cX7_sees 8 = .ok (.iconst 1, 1) := by decide +kernel
theorem dX7_sees_9 : decode cX7_sees 9 = .ok (.if_icmp .ne 7, 3) := by decide +kernel
theorem dX7_sees_12 : decode cX7_sees 12 = .ok (.iconst 1, 1) := by decide +kernel
theorem dX7_sees_13 : decode cX7_sees 13 = .ok (.goto 4, 3) := by decide +kernel
theorem dX7_sees_16 : decode cX7_sees 16 = .ok (.iconst 0, 1) := by decide +kernel
theorem dX7_sees_17 : decode cX7_sees 17 = .ok (.ireturn, 1) := by decide +kernel
theorem dX7_checkSees_0 : decode cX7_checkSees 0 = .ok (.aload_n 0, 1) := by decide +kernel
theorem dX7_checkSees_1 : decode cX7_checkSees 1 = .ok (.iload_n 1, 1) := by decide +kernel
theorem dX7_checkSees_2 : decode cX7_checkSees 2 = .ok (.invokevirtual 26, 3) := by decide +kernel
theorem dX7_checkSees_5 : decode cX7_checkSees 5 = .ok (.ifCond .ne 13, 3) := by decide +kernel
theorem dX7_checkSees_8 : decode cX7_checkSees 8 = .ok (.new 30, 3) := by decide +kernel
theorem dX7_checkSees_11 : decode cX7_checkSees 11 = .ok (.dup, 1) := by decide +kernel
theorem dX7_checkSees_12 : decode cX7_checkSees 12 = .ok (.ldc 32, 2) := by decide +kernel
theorem dX7_checkSees_14 : decode cX7_checkSees 14 = .ok (.invokespecial 34, 3) := by decide +kernel
theorem dX7_checkSees_17 : decode cX7_checkSees 17 = .ok (.athrow, 1) := by decide +kernel
theorem dX7_checkSees_18 : decode cX7_checkSees 18 = .ok (.return_, 1) := by decide +kernel
theorem dX8_init_0 : decode cX8_init 0 = .ok (.aload_n 0, 1) := by decide +kernel
theorem dX8_init_1 : decode cX8_init 1 = .ok (.invokespecial 3, 3) := by decide +kernel
theorem dX8_init_4 : decode cX8_init 4 = .ok (.aload_n 0, 1) := by decide +kernel
theorem dX8_init_5 : decode cX8_init 5 = .ok (.new 9, 3) := by decide +kernel
theorem dX8_init_8 : decode cX8_init 8 = .ok (.dup, 1) := by decide +kernel
theorem dX8_init_9 : decode cX8_init 9 = .ok (.invokespecial 11, 3) := by decide +kernel
theorem dX8_init_12 : decode cX8_init 12 = .ok (.putfield 12, 3) := by decide +kernel
theorem dX8_init_15 : decode cX8_init 15 = .ok (.aload_n 0, 1) := by decide +kernel
theorem dX8_init_16 : decode cX8_init 16 = .ok (.new 9, 3) := by decide +kernel
theorem dX8_init_19 : decode cX8_init 19 = .ok (.dup, 1) := by decide +kernel
theorem dX8_init_20 : decode cX8_init 20 = .ok (.invokespecial 11, 3) := by decide +kernel
theorem dX8_init_23 : decode cX8_init 23 = .ok (.putfield 16, 3) := by decide +kernel
theorem dX8_init_26 : decode cX8_init 26 = .ok (.aload_n 0, 1) := by decide +kernel
theorem dX8_init_27 : decode cX8_init 27 = .ok (.new 9, 3) := by decide +kernel
theorem dX8_init_30 : decode cX8_init 30 = .ok (.dup, 1) := by decide +kernel
theorem dX8_init_31 : decode cX8_init 31 = .ok (.invokespecial 11, 3) := by decide +kernel
theorem dX8_init_34 : decode cX8_init 34 = .ok (.putfield 19, 3) := by decide +kernel
theorem dX8_init_37 : decode cX8_init 37 = .ok (.aload_n 0, 1) := by decide +kernel
theorem dX8_init_38 : decode cX8_init 38 = .ok (.new 9, 3) := by decide +kernel
theorem dX8_init_41 : decode cX8_init 41 = .ok (.dup, 1) := by decide +kernel
theorem dX8_init_42 : decode cX8_init 42 = .ok (.invokespecial 11, 3) := by decide +kernel
theorem dX8_init_45 : decode cX8_init 45 = .ok (.putfield 22, 3) := by decide +kernel
theorem dX8_init_48 : decode cX8_init 48 = .ok (.aload_n 0, 1) := by decide +kernel
theorem dX8_init_49 : decode cX8_init 49 = .ok (.new 25, 3) := by decide +kernel
theorem dX8_init_52 : decode cX8_init 52 = .ok (.dup, 1) := by decide +kernel
theorem dX8_init_53 : decode cX8_init 53 = .ok (.invokespecial 27, 3) := by decide +kernel
theorem dX8_init_56 : decode cX8_init 56 = .ok (.putfield 28, 3) := by decide +kernel
theorem dX8_init_59 : decode cX8_init 59 = .ok (.aload_n 0, 1) := by decide +kernel
theorem dX8_init_60 : decode cX8_init 60 = .ok (.new 25, 3) := by decide +kernel
theorem dX8_init_63 : decode cX8_init 63 = .ok (.dup, 1) := by decide +kernel
theorem dX8_init_64 : decode cX8_init 64 = .ok (.invokespecial 27, 3) := by decide +kernel
theorem dX8_init_67 : decode cX8_init 67 = .ok (.putfield 32, 3) := by decide +kernel
theorem dX8_init_70 : decode cX8_init 70 = .ok (.aload_n 0, 1) := by decide +kernel
theorem dX8_init_71 : decode cX8_init 71 = .ok (.new 35, 3) := by decide +kernel
theorem dX8_init_74 : decode cX8_init 74 = .ok (.dup, 1) := by decide +kernel
theorem dX8_init_75 : decode cX8_init 75 = .ok (.bipush 30, 2) := by decide +kernel
theorem dX8_init_77 : decode cX8_init 77 = .ok (.invokespecial 37, 3) := by decide +kernel
theorem dX8_init_80 : decode cX8_init 80 = .ok (.putfield 40, 3) := by decide +kernel
theorem dX8_init_83 : decode cX8_init 83 = .ok (.aload_n 0, 1) := by decide +kernel
theorem dX8_init_84 : decode cX8_init 84 = .ok (.new 44, 3) := by decide +kernel
theorem dX8_init_87 : decode cX8_init 87 = .ok (.dup, 1) := by decide +kernel
theorem dX8_init_88 : decode cX8_init 88 = .ok (.invokespecial 46, 3) := by decide +kernel
theorem dX8_init_91 : decode cX8_init 91 = .ok (.putfield 47, 3) := by decide +kernel
theorem dX8_init_94 : decode cX8_init 94 = .ok (.return_, 1) := by decide +kernel
theorem dX8_open_0 : decode cX8_open 0 = .ok (.iload_n 1, 1) := by decide +kernel
theorem dX8_open_1 : decode cX8_open 1 = .ok (.invokestatic 83, 3) := by decide +kernel
theorem dX8_open_4 : decode cX8_open 4 = .ok (.iload_n 2, 1) := by decide +kernel
theorem dX8_open_5 : decode cX8_open 5 = .ok (.iconst (-1), 1) := by decide +kernel
theorem dX8_open_6 : decode cX8_open 6 = .ok (.if_icmp .eq 8, 3) := by decide +kernel
theorem dX8_open_9 : decode cX8_open 9 = .ok (.aload_n 0, 1) := by decide +kernel
theorem dX8_open_10 : decode cX8_open 10 = .ok (.iload_n 2, 1) := by decide +kernel
theorem dX8_open_11 : decode cX8_open 11 = .ok (.invokevirtual 86, 3) := by decide +kernel
theorem dX8_open_14 : decode cX8_open 14 = .ok (.aload_n 0, 1) := by decide +kernel
theorem dX8_open_15 : decode cX8_open 15 = .ok (.getfield 89, 3) := by decide +kernel
theorem dX8_open_18 : decode cX8_open 18 = .ok (.ifnull 13, 3) := by decide +kernel
theorem dX8_open_21 : decode cX8_open 21 = .ok (.new 68, 3) := by decide +kernel
theorem dX8_open_24 : decode cX8_open 24 = .ok (.dup, 1) := by decide +kernel
theorem dX8_open_25 : decode cX8_open 25 = .ok (.ldc 93, 2) := by decide +kernel
theorem dX8_open_27 : decode cX8_open 27 = .ok (.invokespecial 72, 3) := by decide +kernel
theorem dX8_open_30 : decode cX8_open 30 = .ok (.athrow, 1) := by decide +kernel
theorem dX8_open_31 : decode cX8_open 31 = .ok (.aload_n 0, 1) := by decide +kernel
theorem dX8_open_32 : decode cX8_open 32 = .ok (.getfield 16, 3) := by decide +kernel
theorem dX8_open_35 : decode cX8_open 35 = .ok (.invokevirtual 64, 3) := by decide +kernel
theorem dX8_open_38 : decode cX8_open 38 = .ok (.bipush 30, 2) := by decide +kernel
theorem dX8_open_40 : decode cX8_open 40 = .ok (.if_icmp .lt 13, 3) := by decide +kernel
theorem dX8_open_43 : decode cX8_open 43 = .ok (.new 68, 3) := by decide +kernel
theorem dX8_open_46 : decode cX8_open 46 = .ok (.dup, 1) := by decide +kernel
theorem dX8_open_47 : decode cX8_open 47 = .ok (.ldc 95, 2) := by decide +kernel
theorem dX8_open_49 : decode cX8_open 49 = .ok (.invokespecial 72, 3) := by decide +kernel
theorem dX8_open_52 : decode cX8_open 52 = .ok (.athrow, 1) := by decide +kernel
theorem dX8_open_53 : decode cX8_open 53 = .ok (.aload_n 0, 1) := by decide +kernel
theorem dX8_open_54 : decode cX8_open 54 = .ok (.new 97, 3) := by decide +kernel
theorem dX8_open_57 : decode cX8_open 57 = .ok (.dup, 1) := by decide +kernel
theorem dX8_open_58 : decode cX8_open 58 = .ok (.iload_n 1, 1) := by decide +kernel
theorem dX8_open_59 : decode cX8_open 59 = .ok (.iload_n 2, 1) := by decide +kernel
theorem dX8_open_60 : decode cX8_open 60 = .ok (.invokespecial 99, 3) := by decide +kernel
theorem dX8_open_63 : decode cX8_open 63 = .ok (.putfield 89, 3) := by decide +kernel
theorem dX8_open_66 : decode cX8_open 66 = .ok (.aload_n 0, 1) := by decide +kernel
theorem dX8_open_67 : decode cX8_open 67 = .ok (.getfield 16, 3) := by decide +kernel
theorem dX8_open_70 : decode cX8_open 70 = .ok (.invokevirtual 64, 3) := by decide +kernel
theorem dX8_open_73 : decode cX8_open 73 = .ok (.ireturn, 1) := by decide +kernel
theorem dX8_addWord_0 : decode cX8_addWord 0 = .ok (.iload_n 1, 1) := by decide +kernel
theorem dX8_addWord_1 : decode cX8_addWord 1 = .ok (.invokestatic 102, 3) := by decide +kernel
theorem dX8_addWord_4 : decode cX8_addWord 4 = .ok (.ifCond .ne 13, 3) := by decide +kernel
theorem dX8_addWord_7 : decode cX8_addWord 7 = .ok (.new 57, 3) := by decide +kernel
theorem dX8_addWord_10 : decode cX8_addWord 10 = .ok (.dup, 1) := by decide +kernel
theorem dX8_addWord_11 : decode cX8_addWord 11 = .ok (.ldc 106, 2) := by decide +kernel
theorem dX8_addWord_13 : decode cX8_addWord 13 = .ok (.invokespecial 61, 3) := by decide +kernel
theorem dX8_addWord_16 : decode cX8_addWord 16 = .ok (.athrow, 1) := by decide +kernel
theorem dX8_addWord_17 : decode cX8_addWord 17 = .ok (.aload_n 0, 1) := by decide +kernel
theorem dX8_addWord_18 : decode cX8_addWord 18 = .ok (.getfield 89, 3) := by decide +kernel
theorem dX8_addWord_21 : decode cX8_addWord 21 = .ok (.astore_n 2, 1) := by decide +kernel
theorem dX8_addWord_22 : decode cX8_addWord 22 = .ok (.aload_n 2, 1) := by decide +kernel
theorem dX8_addWord_23 : decode cX8_addWord 23 = .ok (.ifnonnull 13, 3) := by decide +kernel
theorem dX8_addWord_26 : decode cX8_addWord 26 = .ok (.new 68, 3) := by decide +kernel
theorem dX8_addWord_29 : decode cX8_addWord 29 = .ok (.dup, 1) := by decide +kernel
theorem dX8_addWord_30 : decode cX8_addWord 30 = .ok (.ldc 108, 2) := by decide +kernel
theorem dX8_addWord_32 : decode cX8_addWord 32 = .ok (.invokespecial 72, 3) := by decide +kernel
theorem dX8_addWord_35 : decode cX8_addWord 35 = .ok (.athrow, 1) := by decide +kernel
theorem dX8_addWord_36 : decode cX8_addWord 36 = .ok (.aload_n 2, 1) := by decide +kernel
theorem dX8_addWord_37 : decode cX8_addWord 37 = .ok (.getfield 110, 3) := by decide +kernel
theorem dX8_addWord_40 : decode cX8_addWord 40 = .ok (.astore_n 3, 1) := by decide +kernel
theorem dX8_addWord_41 : decode cX8_addWord 41 = .ok (.aload_n 3, 1) := by decide +kernel
theorem dX8_addWord_42 : decode cX8_addWord 42 = .ok (.getfield 114, 3) := by decide +kernel
theorem dX8_addWord_45 : decode cX8_addWord 45 = .ok (.bipush 12, 2) := by decide +kernel
theorem dX8_addWord_47 : decode cX8_addWord 47 = .ok (.if_icmp .lt 13, 3) := by decide +kernel
theorem dX8_addWord_50 : decode cX8_addWord 50 = .ok (.new 68, 3) := by decide +kernel
theorem dX8_addWord_53 : decode cX8_addWord 53 = .ok (.dup, 1) := by decide +kernel
theorem dX8_addWord_54 : decode cX8_addWord 54 = .ok (.ldc 120, 2) := by decide +kernel
theorem dX8_addWord_56 : decode cX8_addWord 56 = .ok (.invokespecial 72, 3) := by decide +kernel
theorem dX8_addWord_59 : decode cX8_addWord 59 = .ok (.athrow, 1) := by decide +kernel
theorem dX8_addWord_60 : decode cX8_addWord 60 = .ok (.aload_n 3, 1) := by decide +kernel
theorem dX8_addWord_61 : decode cX8_addWord 61 = .ok (.iload_n 1, 1) := by decide +kernel
theorem dX8_addWord_62 : decode cX8_addWord 62 = .ok (.aload_n 3, 1) := by decide +kernel
theorem dX8_addWord_63 : decode cX8_addWord 63 = .ok (.getfield 114, 3) := by decide +kernel
theorem dX8_addWord_66 : decode cX8_addWord 66 = .ok (.aload_n 3, 1) := by decide +kernel
theorem dX8_addWord_67 : decode cX8_addWord 67 = .ok (.getfield 114, 3) := by decide +kernel
theorem dX8_addWord_70 : decode cX8_addWord 70 = .ok (.invokevirtual 122, 3) := by decide +kernel
theorem dX8_addWord_73 : decode cX8_addWord 73 = .ok (.aload_n 3, 1) := by decide +kernel
theorem dX8_addWord_74 : decode cX8_addWord 74 = .ok (.getfield 114, 3) := by decide +kernel
theorem dX8_addWord_77 : decode cX8_addWord 77 = .ok (.ireturn, 1) := by decide +kernel
theorem dX8_close_0 : decode cX8_close 0 = .ok (.aload_n 0, 1) := by decide +kernel
theorem dX8_close_1 : decode cX8_close 1 = .ok (.getfield 89, 3) := by decide +kernel
theorem dX8_close_4 : decode cX8_close 4 = .ok (.astore_n 1, 1) := by decide +kernel
theorem dX8_close_5 : decode cX8_close 5 = .ok (.aload_n 1, 1) := by decide +kernel
theorem dX8_close_6 : decode cX8_close 6 = .ok (.ifnonnull 13, 3) := by decide +kernel
theorem dX8_close_9 : decode cX8_close 9 = .ok (.new 68, 3) := by decide +kernel
theorem dX8_close_12 : decode cX8_close 12 = .ok (.dup, 1) := by decide +kernel
theorem dX8_close_13 : decode cX8_close 13 = .ok (.ldc 108, 2) := by decide +kernel
theorem dX8_close_15 : decode cX8_close 15 = .ok (.invokespecial 72, 3) := by decide +kernel
theorem dX8_close_18 : decode cX8_close 18 = .ok (.athrow, 1) := by decide +kernel
theorem dX8_close_19 : decode cX8_close 19 = .ok (.iconst 0, 1) := by decide +kernel
theorem dX8_close_20 : decode cX8_close 20 = .ok (.istore_n 2, 1) := by decide +kernel
theorem dX8_close_21 : decode cX8_close 21 = .ok (.iload_n 2, 1) := by decide +kernel
theorem dX8_close_22 : decode cX8_close 22 = .ok (.aload_n 0, 1) := by decide +kernel
theorem dX8_close_23 : decode cX8_close 23 = .ok (.getfield 12, 3) := by decide +kernel
theorem dX8_close_26 : decode cX8_close 26 = .ok (.invokevirtual 64, 3) := by decide +kernel
theorem dX8_close_29 : decode cX8_close 29 = .ok (.if_icmp .ge 27, 3) := by decide +kernel
theorem dX8_close_32 : decode cX8_close 32 = .ok (.aload_n 0, 1) := by decide +kernel
theorem dX8_close_33 : decode cX8_close 33 = .ok (.getfield 12, 3) := by decide +kernel
theorem dX8_close_36 : decode cX8_close 36 = .ok (.iload_n 2, 1) := by decide +kernel
theorem dX8_close_37 : decode cX8_close 37 = .ok (.invokevirtual 126, 3) := by decide +kernel
theorem dX8_close_40 : decode cX8_close 40 = .ok (.checkcast 52, 3) := by decide +kernel
theorem dX8_close_43 : decode cX8_close 43 = .ok (.aload_n 1, 1) := by decide +kernel
theorem dX8_close_44 : decode cX8_close 44 = .ok (.getfield 110, 3) := by decide +kernel
theorem dX8_close_47 : decode cX8_close 47 = .ok (.invokevirtual 130, 3) := by decide +kernel
theorem dX8_close_50 : decode cX8_close 50 = .ok (.iinc 2 1, 3) := by decide +kernel
theorem dX8_close_53 : decode cX8_close 53 = .ok (.goto (-32), 3) := by decide +kernel
theorem dX8_close_56 : decode cX8_close 56 = .ok (.aload_n 0, 1) := by decide +kernel
theorem dX8_close_57 : decode cX8_close 57 = .ok (.getfield 16, 3) := by decide +kernel
theorem dX8_close_60 : decode cX8_close 60 = .ok (.aload_n 1, 1) := by decide +kernel
theorem dX8_close_61 : decode cX8_close 61 = .ok (.invokevirtual 76, 3) := by decide +kernel
theorem dX8_close_64 : decode cX8_close 64 = .ok (.pop, 1) := by decide +kernel
theorem dX8_close_65 : decode cX8_close 65 = .ok (.aload_n 0, 1) := by decide +kernel
theorem dX8_close_66 : decode cX8_close 66 = .ok (.getfield 28, 3) := by decide +kernel
theorem dX8_close_69 : decode cX8_close 69 = .ok (.invokevirtual 134, 3) := by decide +kernel
theorem dX8_close_72 : decode cX8_close 72 = .ok (.aload_n 0, 1) := by decide +kernel
theorem dX8_close_73 : decode cX8_close 73 = .ok (.aconst_null, 1) := by decide +kernel
theorem dX8_close_74 : decode cX8_close 74 = .ok (.putfield 89, 3) := by decide +kernel
theorem dX8_close_77 : decode cX8_close 77 = .ok (.aload_n 0, 1) := by decide +kernel
theorem dX8_close_78 : decode cX8_close 78 = .ok (.getfield 16, 3) := by decide +kernel
theorem dX8_close_81 : decode cX8_close 81 = .ok (.invokevirtual 64, 3) := by decide +kernel
theorem dX8_close_84 : decode cX8_close 84 = .ok (.iconst 1, 1) := by decide +kernel
theorem dX8_close_85 : decode cX8_close 85 = .ok (.isub, 1) := by decide +kernel
theorem dX8_close_86 : decode cX8_close 86 = .ok (.ireturn, 1) := by decide +kernel
theorem dX8_remove_0 : decode cX8_remove 0 = .ok (.aload_n 0, 1) := by decide +kernel
theorem dX8_remove_1 : decode cX8_remove 1 = .ok (.iload_n 1, 1) := by decide +kernel
theorem dX8_remove_2 : decode cX8_remove 2 = .ok (.invokevirtual 86, 3) := by decide +kernel
theorem dX8_remove_5 : decode cX8_remove 5 = .ok (.aload_n 0, 1) := by decide +kernel
theorem dX8_remove_6 : decode cX8_remove 6 = .ok (.getfield 28, 3) := by decide +kernel
theorem dX8_remove_9 : decode cX8_remove 9 = .ok (.iload_n 1, 1) := by decide +kernel
theorem dX8_remove_10 : decode cX8_remove 10 = .ok (.invokevirtual 137, 3) := by decide +kernel
theorem dX8_remove_13 : decode cX8_remove 13 = .ok (.istore_n 2, 1) := by decide +kernel
theorem dX8_remove_14 : decode cX8_remove 14 = .ok (.aload_n 0, 1) := by decide +kernel
theorem dX8_remove_15 : decode cX8_remove 15 = .ok (.getfield 28, 3) := by decide +kernel
theorem dX8_remove_18 : decode cX8_remove 18 = .ok (.iload_n 1, 1) := by decide +kernel
theorem dX8_remove_19 : decode cX8_remove 19 = .ok (.invokevirtual 141, 3) := by decide +kernel
theorem dX8_remove_22 : decode cX8_remove 22 = .ok (.ifCond .ne 13, 3) := by decide +kernel
theorem dX8_remove_25 : decode cX8_remove 25 = .ok (.new 68, 3) := by decide +kernel
theorem dX8_remove_28 : decode cX8_remove 28 = .ok (.dup, 1) := by decide +kernel
theorem dX8_remove_29 : decode cX8_remove 29 = .ok (.ldc 144, 2) := by decide +kernel
theorem dX8_remove_31 : decode cX8_remove 31 = .ok (.invokespecial 72, 3) := by decide +kernel
theorem dX8_remove_34 : decode cX8_remove 34 = .ok (.athrow, 1) := by decide +kernel
theorem dX8_remove_35 : decode cX8_remove 35 = .ok (.aload_n 0, 1) := by decide +kernel
theorem dX8_remove_36 : decode cX8_remove 36 = .ok (.getfield 28, 3) := by decide +kernel
theorem dX8_remove_39 : decode cX8_remove 39 = .ok (.iload_n 1, 1) := by decide +kernel
theorem dX8_remove_40 : decode cX8_remove 40 = .ok (.invokevirtual 146, 3) := by decide +kernel
theorem dX8_remove_43 : decode cX8_remove 43 = .ok (.iload_n 2, 1) := by decide +kernel
theorem dX8_remove_44 : decode cX8_remove 44 = .ok (.ireturn, 1) := by decide +kernel
theorem dX8_state_0 : decode cX8_state 0 = .ok (.aload_n 0, 1) := by decide +kernel
theorem dX8_state_1 : decode cX8_state 1 = .ok (.iload_n 1, 1) := by decide +kernel
theorem dX8_state_2 : decode cX8_state 2 = .ok (.invokevirtual 86, 3) := by decide +kernel
theorem dX8_state_5 : decode cX8_state 5 = .ok (.aload_n 0, 1) := by decide +kernel
theorem dX8_state_6 : decode cX8_state 6 = .ok (.getfield 28, 3) := by decide +kernel
theorem dX8_state_9 : decode cX8_state 9 = .ok (.iload_n 1, 1) := by decide +kernel
theorem dX8_state_10 : decode cX8_state 10 = .ok (.invokevirtual 137, 3) := by decide +kernel
theorem dX8_state_13 : decode cX8_state 13 = .ok (.ireturn, 1) := by decide +kernel
theorem dX8_write_0 : decode cX8_write 0 = .ok (.aload_n 0, 1) := by decide +kernel
theorem dX8_write_1 : decode cX8_write 1 = .ok (.getfield 28, 3) := by decide +kernel
theorem dX8_write_4 : decode cX8_write 4 = .ok (.invokevirtual 157, 3) := by decide +kernel
theorem dX8_write_7 : decode cX8_write 7 = .ok (.ireturn, 1) := by decide +kernel
theorem dX8_segments_0 : decode cX8_segments 0 = .ok (.aload_n 0, 1) := by decide +kernel
theorem dX8_segments_1 : decode cX8_segments 1 = .ok (.getfield 28, 3) := by decide +kernel
theorem dX8_segments_4 : decode cX8_segments 4 = .ok (.getfield 160, 3) := by decide +kernel
theorem dX8_segments_7 : decode cX8_segments 7 = .ok (.ireturn, 1) := by decide +kernel
theorem dX8_size_0 : decode cX8_size 0 = .ok (.aload_n 0, 1) := by decide +kernel
theorem dX8_size_1 : decode cX8_size 1 = .ok (.getfield 28, 3) := by decide +kernel
theorem dX8_size_4 : decode cX8_size 4 = .ok (.iload_n 1, 1) := by decide +kernel
theorem dX8_size_5 : decode cX8_size 5 = .ok (.invokevirtual 163, 3) := by decide +kernel
theorem dX8_size_8 : decode cX8_size 8 = .ok (.ifCond .ne 13, 3) := by decide +kernel
theorem dX8_size_11 : decode cX8_size 11 = .ok (.new 166, 3) := by decide +kernel
theorem dX8_size_14 : decode cX8_size 14 = .ok (.dup, 1) := by decide +kernel
theorem dX8_size_15 : decode cX8_size 15 = .ok (.ldc 168, 2) := by decide +kernel
theorem dX8_size_17 : decode cX8_size 17 = .ok (.invokespecial 170, 3) := by decide +kernel
theorem dX8_size_20 : decode cX8_size 20 = .ok (.athrow, 1) := by decide +kernel
theorem dX8_size_21 : decode cX8_size 21 = .ok (.aload_n 0, 1) := by decide +kernel
theorem dX8_size_22 : decode cX8_size 22 = .ok (.getfield 28, 3) := by decide +kernel
theorem dX8_size_25 : decode cX8_size 25 = .ok (.iload_n 1, 1) := by decide +kernel
theorem dX8_size_26 : decode cX8_size 26 = .ok (.invokevirtual 171, 3) := by decide +kernel
theorem dX8_size_29 : decode cX8_size 29 = .ok (.ireturn, 1) := by decide +kernel
theorem dX8_merge_0 : decode cX8_merge 0 = .ok (.aload_n 0, 1) := by decide +kernel
theorem dX8_merge_1 : decode cX8_merge 1 = .ok (.getfield 28, 3) := by decide +kernel
theorem dX8_merge_4 : decode cX8_merge 4 = .ok (.iload_n 1, 1) := by decide +kernel
theorem dX8_merge_5 : decode cX8_merge 5 = .ok (.invokevirtual 163, 3) := by decide +kernel
theorem dX8_merge_8 : decode cX8_merge 8 = .ok (.ifCond .ne 13, 3) := by decide +kernel
theorem dX8_merge_11 : decode cX8_merge 11 = .ok (.new 166, 3) := by decide +kernel
theorem dX8_merge_14 : decode cX8_merge 14 = .ok (.dup, 1) := by decide +kernel
theorem dX8_merge_15 : decode cX8_merge 15 = .ok (.ldc 168, 2) := by decide +kernel
theorem dX8_merge_17 : decode cX8_merge 17 = .ok (.invokespecial 170, 3) := by decide +kernel
theorem dX8_merge_20 : decode cX8_merge 20 = .ok (.athrow, 1) := by decide +kernel
theorem dX8_merge_21 : decode cX8_merge 21 = .ok (.aload_n 0, 1) := by decide +kernel
theorem dX8_merge_22 : decode cX8_merge 22 = .ok (.getfield 28, 3) := by decide +kernel
theorem dX8_merge_25 : decode cX8_merge 25 = .ok (.iload_n 1, 1) := by decide +kernel
theorem dX8_merge_26 : decode cX8_merge 26 = .ok (.iconst 1, 1) := by decide +kernel
theorem dX8_merge_27 : decode cX8_merge 27 = .ok (.iadd, 1) := by decide +kernel
theorem dX8_merge_28 : decode cX8_merge 28 = .ok (.invokevirtual 163, 3) := by decide +kernel
theorem dX8_merge_31 : decode cX8_merge 31 = .ok (.ifCond .ne 13, 3) := by decide +kernel
theorem dX8_merge_34 : decode cX8_merge 34 = .ok (.new 166, 3) := by decide +kernel
theorem dX8_merge_37 : decode cX8_merge 37 = .ok (.dup, 1) := by decide +kernel
theorem dX8_merge_38 : decode cX8_merge 38 = .ok (.ldc 175, 2) := by decide +kernel
theorem dX8_merge_40 : decode cX8_merge 40 = .ok (.invokespecial 170, 3) := by decide +kernel
theorem dX8_merge_43 : decode cX8_merge 43 = .ok (.athrow, 1) := by decide +kernel
theorem dX8_merge_44 : decode cX8_merge 44 = .ok (.aload_n 0, 1) := by decide +kernel
theorem dX8_merge_45 : decode cX8_merge 45 = .ok (.getfield 28, 3) := by decide +kernel
theorem dX8_merge_48 : decode cX8_merge 48 = .ok (.iload_n 1, 1) := by decide +kernel
theorem dX8_merge_49 : decode cX8_merge 49 = .ok (.invokevirtual 177, 3) := by decide +kernel
theorem dX8_merge_52 : decode cX8_merge 52 = .ok (.ireturn, 1) := by decide +kernel
theorem dX8_commit_0 : decode cX8_commit 0 = .ok (.aload_n 0, 1) := by decide +kernel
theorem dX8_commit_1 : decode cX8_commit 1 = .ok (.getfield 28, 3) := by decide +kernel
theorem dX8_commit_4 : decode cX8_commit 4 = .ok (.invokevirtual 157, 3) := by decide +kernel
theorem dX8_commit_7 : decode cX8_commit 7 = .ok (.pop, 1) := by decide +kernel
theorem dX8_commit_8 : decode cX8_commit 8 = .ok (.aload_n 0, 1) := by decide +kernel
theorem dX8_commit_9 : decode cX8_commit 9 = .ok (.getfield 32, 3) := by decide +kernel
theorem dX8_commit_12 : decode cX8_commit 12 = .ok (.aload_n 0, 1) := by decide +kernel
theorem dX8_commit_13 : decode cX8_commit 13 = .ok (.getfield 28, 3) := by decide +kernel
theorem dX8_commit_16 : decode cX8_commit 16 = .ok (.invokevirtual 180, 3) := by decide +kernel
theorem dX8_commit_19 : decode cX8_commit 19 = .ok (.aload_n 0, 1) := by decide +kernel
theorem dX8_commit_20 : decode cX8_commit 20 = .ok (.dup, 1) := by decide +kernel
theorem dX8_commit_21 : decode cX8_commit 21 = .ok (.getfield 184, 3) := by decide +kernel
theorem dX8_commit_24 : decode cX8_commit 24 = .ok (.iconst 1, 1) := by decide +kernel
theorem dX8_commit_25 : decode cX8_commit 25 = .ok (.iadd, 1) := by decide +kernel
theorem dX8_commit_26 : decode cX8_commit 26 = .ok (.putfield 184, 3) := by decide +kernel
theorem dX8_commit_29 : decode cX8_commit 29 = .ok (.aload_n 0, 1) := by decide +kernel
theorem dX8_commit_30 : decode cX8_commit 30 = .ok (.getfield 184, 3) := by decide +kernel
theorem dX8_commit_33 : decode cX8_commit 33 = .ok (.ireturn, 1) := by decide +kernel
theorem dX8_crash_0 : decode cX8_crash 0 = .ok (.aload_n 0, 1) := by decide +kernel
theorem dX8_crash_1 : decode cX8_crash 1 = .ok (.aconst_null, 1) := by decide +kernel
theorem dX8_crash_2 : decode cX8_crash 2 = .ok (.putfield 89, 3) := by decide +kernel
theorem dX8_crash_5 : decode cX8_crash 5 = .ok (.aload_n 0, 1) := by decide +kernel
theorem dX8_crash_6 : decode cX8_crash 6 = .ok (.getfield 19, 3) := by decide +kernel
theorem dX8_crash_9 : decode cX8_crash 9 = .ok (.invokevirtual 80, 3) := by decide +kernel
theorem dX8_crash_12 : decode cX8_crash 12 = .ok (.aload_n 0, 1) := by decide +kernel
theorem dX8_crash_13 : decode cX8_crash 13 = .ok (.getfield 28, 3) := by decide +kernel
theorem dX8_crash_16 : decode cX8_crash 16 = .ok (.aload_n 0, 1) := by decide +kernel
theorem dX8_crash_17 : decode cX8_crash 17 = .ok (.getfield 32, 3) := by decide +kernel
theorem dX8_crash_20 : decode cX8_crash 20 = .ok (.invokevirtual 187, 3) := by decide +kernel
theorem dX8_crash_23 : decode cX8_crash 23 = .ok (.ireturn, 1) := by decide +kernel
theorem dX8_follow_0 : decode cX8_follow 0 = .ok (.aload_n 0, 1) := by decide +kernel
theorem dX8_follow_1 : decode cX8_follow 1 = .ok (.getfield 184, 3) := by decide +kernel
theorem dX8_follow_4 : decode cX8_follow 4 = .ok (.ifCond .ne 13, 3) := by decide +kernel
theorem dX8_follow_7 : decode cX8_follow 7 = .ok (.new 68, 3) := by decide +kernel
theorem dX8_follow_10 : decode cX8_follow 10 = .ok (.dup, 1) := by decide +kernel
theorem dX8_follow_11 : decode cX8_follow 11 = .ok (.ldc 191, 2) := by decide +kernel
theorem dX8_follow_13 : decode cX8_follow 13 = .ok (.invokespecial 72, 3) := by decide +kernel
theorem dX8_follow_16 : decode cX8_follow 16 = .ok (.athrow, 1) := by decide +kernel
theorem dX8_follow_17 : decode cX8_follow 17 = .ok (.aload_n 0, 1) := by decide +kernel
theorem dX8_follow_18 : decode cX8_follow 18 = .ok (.getfield 32, 3) := by decide +kernel
theorem dX8_follow_21 : decode cX8_follow 21 = .ok (.aload_n 0, 1) := by decide +kernel
theorem dX8_follow_22 : decode cX8_follow 22 = .ok (.getfield 40, 3) := by decide +kernel
theorem dX8_follow_25 : decode cX8_follow 25 = .ok (.invokevirtual 193, 3) := by decide +kernel
theorem dX8_follow_28 : decode cX8_follow 28 = .ok (.ireturn, 1) := by decide +kernel
theorem dX8_isOnReplica_0 : decode cX8_isOnReplica 0 = .ok (.aload_n 0, 1) := by decide +kernel
theorem dX8_isOnReplica_1 : decode cX8_isOnReplica 1 = .ok (.iload_n 1, 1) := by decide +kernel
theorem dX8_isOnReplica_2 : decode cX8_isOnReplica 2 = .ok (.invokevirtual 86, 3) := by decide +kernel
theorem dX8_isOnReplica_5 : decode cX8_isOnReplica 5 = .ok (.aload_n 0, 1) := by decide +kernel
theorem dX8_isOnReplica_6 : decode cX8_isOnReplica 6 = .ok (.getfield 40, 3) := by decide +kernel
theorem dX8_isOnReplica_9 : decode cX8_isOnReplica 9 = .ok (.iload_n 1, 1) := by decide +kernel
theorem dX8_isOnReplica_10 : decode cX8_isOnReplica 10 = .ok (.invokevirtual 197, 3) := by decide +kernel
theorem dX8_isOnReplica_13 : decode cX8_isOnReplica 13 = .ok (.iconst 1, 1) := by decide +kernel
theorem dX8_isOnReplica_14 : decode cX8_isOnReplica 14 = .ok (.if_icmp .ne 7, 3) := by decide +kernel
theorem dX8_isOnReplica_17 : decode cX8_isOnReplica 17 = .ok (.iconst 1, 1) := by decide +kernel
theorem dX8_isOnReplica_18 : decode cX8_isOnReplica 18 = .ok (.goto 4, 3) := by decide +kernel
theorem dX8_isOnReplica_21 : decode cX8_isOnReplica 21 = .ok (.iconst 0, 1) := by decide +kernel
theorem dX8_isOnReplica_22 : decode cX8_isOnReplica 22 = .ok (.ireturn, 1) := by decide +kernel
theorem dX8_openView_0 : decode cX8_openView 0 = .ok (.aload_n 0, 1) := by decide +kernel
theorem dX8_openView_1 : decode cX8_openView 1 = .ok (.getfield 19, 3) := by decide +kernel
theorem dX8_openView_4 : decode cX8_openView 4 = .ok (.invokevirtual 64, 3) := by decide +kernel
theorem dX8_openView_7 : decode cX8_openView 7 = .ok (.iconst 4, 1) := by decide +kernel
theorem dX8_openView_8 : decode cX8_openView 8 = .ok (.if_icmp .lt 13, 3) := by decide +kernel
theorem dX8_openView_11 : decode cX8_openView 11 = .ok (.new 68, 3) := by decide +kernel
theorem dX8_openView_14 : decode cX8_openView 14 = .ok (.dup, 1) := by decide +kernel
theorem dX8_openView_15 : decode cX8_openView 15 = .ok (.ldc 199, 2) := by decide +kernel
theorem dX8_openView_17 : decode cX8_openView 17 = .ok (.invokespecial 72, 3) := by decide +kernel
theorem dX8_openView_20 : decode cX8_openView 20 = .ok (.athrow, 1) := by decide +kernel
theorem dX8_openView_21 : decode cX8_openView 21 = .ok (.new 35, 3) := by decide +kernel
theorem dX8_openView_24 : decode cX8_openView 24 = .ok (.dup, 1) := by decide +kernel
theorem dX8_openView_25 : decode cX8_openView 25 = .ok (.bipush 30, 2) := by decide +kernel
theorem dX8_openView_27 : decode cX8_openView 27 = .ok (.invokespecial 37, 3) := by decide +kernel
theorem dX8_openView_30 : decode cX8_openView 30 = .ok (.astore_n 1, 1) := by decide +kernel
theorem dX8_openView_31 : decode cX8_openView 31 = .ok (.aload_n 0, 1) := by decide +kernel
theorem dX8_openView_32 : decode cX8_openView 32 = .ok (.getfield 28, 3) := by decide +kernel
theorem dX8_openView_35 : decode cX8_openView 35 = .ok (.aload_n 1, 1) := by decide +kernel
theorem dX8_openView_36 : decode cX8_openView 36 = .ok (.invokevirtual 193, 3) := by decide +kernel
theorem dX8_openView_39 : decode cX8_openView 39 = .ok (.istore_n 2, 1) := by decide +kernel
theorem dX8_openView_40 : decode cX8_openView 40 = .ok (.aload_n 0, 1) := by decide +kernel
theorem dX8_openView_41 : decode cX8_openView 41 = .ok (.getfield 19, 3) := by decide +kernel
theorem dX8_openView_44 : decode cX8_openView 44 = .ok (.new 201, 3) := by decide +kernel
theorem dX8_openView_47 : decode cX8_openView 47 = .ok (.dup, 1) := by decide +kernel
theorem dX8_openView_48 : decode cX8_openView 48 = .ok (.aload_n 0, 1) := by decide +kernel
theorem dX8_openView_49 : decode cX8_openView 49 = .ok (.getfield 203, 3) := by decide +kernel
theorem dX8_openView_52 : decode cX8_openView 52 = .ok (.aload_n 1, 1) := by decide +kernel
theorem dX8_openView_53 : decode cX8_openView 53 = .ok (.iload_n 2, 1) := by decide +kernel
theorem dX8_openView_54 : decode cX8_openView 54 = .ok (.invokespecial 206, 3) := by decide +kernel
theorem dX8_openView_57 : decode cX8_openView 57 = .ok (.invokevirtual 76, 3) := by decide +kernel
theorem dX8_openView_60 : decode cX8_openView 60 = .ok (.pop, 1) := by decide +kernel
theorem dX8_openView_61 : decode cX8_openView 61 = .ok (.aload_n 0, 1) := by decide +kernel
theorem dX8_openView_62 : decode cX8_openView 62 = .ok (.dup, 1) := by decide +kernel
theorem dX8_openView_63 : decode cX8_openView 63 = .ok (.getfield 203, 3) := by decide +kernel
theorem dX8_openView_66 : decode cX8_openView 66 = .ok (.iconst 1, 1) := by decide +kernel
theorem dX8_openView_67 : decode cX8_openView 67 = .ok (.iadd, 1) := by decide +kernel
theorem dX8_openView_68 : decode cX8_openView 68 = .ok (.putfield 203, 3) := by decide +kernel
theorem dX8_openView_71 : decode cX8_openView 71 = .ok (.aload_n 0, 1) := by decide +kernel
theorem dX8_openView_72 : decode cX8_openView 72 = .ok (.getfield 203, 3) := by decide +kernel
theorem dX8_openView_75 : decode cX8_openView 75 = .ok (.iconst 1, 1) := by decide +kernel
theorem dX8_openView_76 : decode cX8_openView 76 = .ok (.isub, 1) := by decide +kernel
theorem dX8_openView_77 : decode cX8_openView 77 = .ok (.ireturn, 1) := by decide +kernel
theorem dX8_closeView_0 : decode cX8_closeView 0 = .ok (.aload_n 0, 1) := by decide +kernel
theorem dX8_closeView_1 : decode cX8_closeView 1 = .ok (.iload_n 1, 1) := by decide +kernel
theorem dX8_closeView_2 : decode cX8_closeView 2 = .ok (.invokevirtual 209, 3) := by decide +kernel
theorem dX8_closeView_5 : decode cX8_closeView 5 = .ok (.istore_n 2, 1) := by decide +kernel
theorem dX8_closeView_6 : decode cX8_closeView 6 = .ok (.iload_n 2, 1) := by decide +kernel
theorem dX8_closeView_7 : decode cX8_closeView 7 = .ok (.ifCond .ge 13, 3) := by decide +kernel
theorem dX8_closeView_10 : decode cX8_closeView 10 = .ok (.new 166, 3) := by decide +kernel
theorem dX8_closeView_13 : decode cX8_closeView 13 = .ok (.dup, 1) := by decide +kernel
theorem dX8_closeView_14 : decode cX8_closeView 14 = .ok (.ldc 212, 2) := by decide +kernel
theorem dX8_closeView_16 : decode cX8_closeView 16 = .ok (.invokespecial 170, 3) := by decide +kernel
theorem dX8_closeView_19 : decode cX8_closeView 19 = .ok (.athrow, 1) := by decide +kernel
theorem dX8_closeView_20 : decode cX8_closeView 20 = .ok (.aload_n 0, 1) := by decide +kernel
theorem dX8_closeView_21 : decode cX8_closeView 21 = .ok (.getfield 19, 3) := by decide +kernel
theorem dX8_closeView_24 : decode cX8_closeView 24 = .ok (.iload_n 2, 1) := by decide +kernel
theorem dX8_closeView_25 : decode cX8_closeView 25 = .ok (.invokevirtual 214, 3) := by decide +kernel
theorem dX8_closeView_28 : decode cX8_closeView 28 = .ok (.pop, 1) := by decide +kernel
theorem dX8_closeView_29 : decode cX8_closeView 29 = .ok (.aload_n 0, 1) := by decide +kernel
theorem dX8_closeView_30 : decode cX8_closeView 30 = .ok (.getfield 19, 3) := by decide +kernel
theorem dX8_closeView_33 : decode cX8_closeView 33 = .ok (.invokevirtual 64, 3) := by decide +kernel
theorem dX8_closeView_36 : decode cX8_closeView 36 = .ok (.ireturn, 1) := by decide +kernel
theorem dX8_seen_0 : decode cX8_seen 0 = .ok (.aload_n 0, 1) := by decide +kernel
theorem dX8_seen_1 : decode cX8_seen 1 = .ok (.iload_n 1, 1) := by decide +kernel
theorem dX8_seen_2 : decode cX8_seen 2 = .ok (.invokevirtual 217, 3) := by decide +kernel
theorem dX8_seen_5 : decode cX8_seen 5 = .ok (.getfield 221, 3) := by decide +kernel
theorem dX8_seen_8 : decode cX8_seen 8 = .ok (.ireturn, 1) := by decide +kernel
theorem dX8_ask_0 : decode cX8_ask 0 = .ok (.iload_n 1, 1) := by decide +kernel
theorem dX8_ask_1 : decode cX8_ask 1 = .ok (.iload_n 2, 1) := by decide +kernel
theorem dX8_ask_2 : decode cX8_ask 2 = .ok (.iload_n 3, 1) := by decide +kernel
theorem dX8_ask_3 : decode cX8_ask 3 = .ok (.iload 4, 2) := by decide +kernel
theorem dX8_ask_5 : decode cX8_ask 5 = .ok (.invokestatic 222, 3) := by decide +kernel
theorem dX8_ask_8 : decode cX8_ask 8 = .ok (.ifCond .ne 13, 3) := by decide +kernel
theorem dX8_ask_11 : decode cX8_ask 11 = .ok (.new 57, 3) := by decide +kernel
theorem dX8_ask_14 : decode cX8_ask 14 = .ok (.dup, 1) := by decide +kernel
theorem dX8_ask_15 : decode cX8_ask 15 = .ok (.ldc 228, 2) := by decide +kernel
theorem dX8_ask_17 : decode cX8_ask 17 = .ok (.invokespecial 61, 3) := by decide +kernel
theorem dX8_ask_20 : decode cX8_ask 20 = .ok (.athrow, 1) := by decide +kernel
theorem dX8_ask_21 : decode cX8_ask 21 = .ok (.iload 5, 2) := by decide +kernel
theorem dX8_ask_23 : decode cX8_ask 23 = .ok (.iconst 1, 1) := by decide +kernel
theorem dX8_ask_24 : decode cX8_ask 24 = .ok (.if_icmp .lt 10, 3) := by decide +kernel
theorem dX8_ask_27 : decode cX8_ask 27 = .ok (.iload 5, 2) := by decide +kernel
theorem dX8_ask_29 : decode cX8_ask 29 = .ok (.bipush 9, 2) := by decide +kernel
theorem dX8_ask_31 : decode cX8_ask 31 = .ok (.if_icmp .le 13, 3) := by decide +kernel
theorem dX8_ask_34 : decode cX8_ask 34 = .ok (.new 57, 3) := by decide +kernel
theorem dX8_ask_37 : decode cX8_ask 37 = .ok (.dup, 1) := by decide +kernel
theorem dX8_ask_38 : decode cX8_ask 38 = .ok (.ldc 230, 2) := by decide +kernel
theorem dX8_ask_40 : decode cX8_ask 40 = .ok (.invokespecial 61, 3) := by decide +kernel
theorem dX8_ask_43 : decode cX8_ask 43 = .ok (.athrow, 1) := by decide +kernel
theorem dX8_ask_44 : decode cX8_ask 44 = .ok (.aload_n 0, 1) := by decide +kernel
theorem dX8_ask_45 : decode cX8_ask 45 = .ok (.getfield 22, 3) := by decide +kernel
theorem dX8_ask_48 : decode cX8_ask 48 = .ok (.invokevirtual 64, 3) := by decide +kernel
theorem dX8_ask_51 : decode cX8_ask 51 = .ok (.bipush 40, 2) := by decide +kernel
theorem dX8_ask_53 : decode cX8_ask 53 = .ok (.if_icmp .lt 13, 3) := by decide +kernel
theorem dX8_ask_56 : decode cX8_ask 56 = .ok (.new 68, 3) := by decide +kernel
theorem dX8_ask_59 : decode cX8_ask 59 = .ok (.dup, 1) := by decide +kernel
theorem dX8_ask_60 : decode cX8_ask 60 = .ok (.ldc 232, 2) := by decide +kernel
theorem dX8_ask_62 : decode cX8_ask 62 = .ok (.invokespecial 72, 3) := by decide +kernel
theorem dX8_ask_65 : decode cX8_ask 65 = .ok (.athrow, 1) := by decide +kernel
theorem dX8_ask_66 : decode cX8_ask 66 = .ok (.aload_n 0, 1) := by decide +kernel
theorem dX8_ask_67 : decode cX8_ask 67 = .ok (.getfield 22, 3) := by decide +kernel
theorem dX8_ask_70 : decode cX8_ask 70 = .ok (.new 223, 3) := by decide +kernel
theorem dX8_ask_73 : decode cX8_ask 73 = .ok (.dup, 1) := by decide +kernel
theorem dX8_ask_74 : decode cX8_ask 74 = .ok (.iload_n 1, 1) := by decide +kernel
theorem dX8_ask_75 : decode cX8_ask 75 = .ok (.iload_n 2, 1) := by decide +kernel
theorem dX8_ask_76 : decode cX8_ask 76 = .ok (.iload_n 3, 1) := by decide +kernel
theorem dX8_ask_77 : decode cX8_ask 77 = .ok (.iload 4, 2) := by decide +kernel
theorem dX8_ask_79 : decode cX8_ask 79 = .ok (.iload 5, 2) := by decide +kernel
theorem dX8_ask_81 : decode cX8_ask 81 = .ok (.iconst 1, 1) := by decide +kernel
theorem dX8_ask_82 : decode cX8_ask 82 = .ok (.invokespecial 234, 3) := by decide +kernel
theorem dX8_ask_85 : decode cX8_ask 85 = .ok (.invokevirtual 76, 3) := by decide +kernel
theorem dX8_ask_88 : decode cX8_ask 88 = .ok (.pop, 1) := by decide +kernel
theorem dX8_ask_89 : decode cX8_ask 89 = .ok (.aload_n 0, 1) := by decide +kernel
theorem dX8_ask_90 : decode cX8_ask 90 = .ok (.getfield 22, 3) := by decide +kernel
theorem dX8_ask_93 : decode cX8_ask 93 = .ok (.invokevirtual 64, 3) := by decide +kernel
theorem dX8_ask_96 : decode cX8_ask 96 = .ok (.iconst 1, 1) := by decide +kernel
theorem dX8_ask_97 : decode cX8_ask 97 = .ok (.isub, 1) := by decide +kernel
theorem dX8_ask_98 : decode cX8_ask 98 = .ok (.ireturn, 1) := by decide +kernel
theorem dX8_scoreAlone_0 : decode cX8_scoreAlone 0 = .ok (.aload_n 0, 1) := by decide +kernel
theorem dX8_scoreAlone_1 : decode cX8_scoreAlone 1 = .ok (.iload_n 1, 1) := by decide +kernel
theorem dX8_scoreAlone_2 : decode cX8_scoreAlone 2 = .ok (.iload_n 2, 1) := by decide +kernel
theorem dX8_scoreAlone_3 : decode cX8_scoreAlone 3 = .ok (.invokevirtual 251, 3) := by decide +kernel
theorem dX8_scoreAlone_6 : decode cX8_scoreAlone 6 = .ok (.iload_n 3, 1) := by decide +kernel
theorem dX8_scoreAlone_7 : decode cX8_scoreAlone 7 = .ok (.invokevirtual 267, 3) := by decide +kernel
theorem dX8_scoreAlone_10 : decode cX8_scoreAlone 10 = .ok (.aload_n 0, 1) := by decide +kernel
theorem dX8_scoreAlone_11 : decode cX8_scoreAlone 11 = .ok (.getfield 47, 3) := by decide +kernel
theorem dX8_scoreAlone_14 : decode cX8_scoreAlone 14 = .ok (.iload_n 3, 1) := by decide +kernel
theorem dX8_scoreAlone_15 : decode cX8_scoreAlone 15 = .ok (.invokevirtual 264, 3) := by decide +kernel
theorem dX8_scoreAlone_18 : decode cX8_scoreAlone 18 = .ok (.i2l, 1) := by decide +kernel
theorem dX8_scoreAlone_19 : decode cX8_scoreAlone 19 = .ok (.lreturn, 1) := by decide +kernel
theorem dX8_removedShare_0 : decode cX8_removedShare 0 = .ok (.aload_n 0, 1) := by decide +kernel
theorem dX8_removedShare_1 : decode cX8_removedShare 1 = .ok (.getfield 28, 3) := by decide +kernel
theorem dX8_removedShare_4 : decode cX8_removedShare 4 = .ok (.invokevirtual 300, 3) := by decide +kernel
theorem dX8_removedShare_7 : decode cX8_removedShare 7 = .ok (.istore_n 1, 1) := by decide +kernel
theorem dX8_removedShare_8 : decode cX8_removedShare 8 = .ok (.iload_n 1, 1) := by decide +kernel
theorem dX8_removedShare_9 : decode cX8_removedShare 9 = .ok (.ifCond .ne 14, 3) := by decide +kernel
theorem dX8_removedShare_12 : decode cX8_removedShare 12 = .ok (.new 303, 3) := by decide +kernel
theorem dX8_removedShare_15 : decode cX8_removedShare 15 = .ok (.dup, 1) := by decide +kernel
theorem dX8_removedShare_16 : decode cX8_removedShare 16 = .ok (.ldc_w 305, 3) := by decide +kernel
theorem dX8_removedShare_19 : decode cX8_removedShare 19 = .ok (.invokespecial 307, 3) := by decide +kernel
theorem dX8_removedShare_22 : decode cX8_removedShare 22 = .ok (.athrow, 1) := by decide +kernel
theorem dX8_removedShare_23 : decode cX8_removedShare 23 = .ok (.aload_n 0, 1) := by decide +kernel
theorem dX8_removedShare_24 : decode cX8_removedShare 24 = .ok (.getfield 28, 3) := by decide +kernel
theorem dX8_removedShare_27 : decode cX8_removedShare 27 = .ok (.invokevirtual 308, 3) := by decide +kernel
theorem dX8_removedShare_30 : decode cX8_removedShare 30 = .ok (.i2f, 1) := by decide +kernel
theorem dX8_removedShare_31 : decode cX8_removedShare 31 = .ok (.iload_n 1, 1) := by decide +kernel
theorem dX8_removedShare_32 : decode cX8_removedShare 32 = .ok (.i2f, 1) := by decide +kernel
theorem dX8_removedShare_33 : decode cX8_removedShare 33 = .ok (.fdiv, 1) := by decide +kernel
theorem dX8_removedShare_34 : decode cX8_removedShare 34 = .ok (.freturn, 1) := by decide +kernel
theorem dX8_isWord_0 : decode cX8_isWord 0 = .ok (.iload_n 0, 1) := by decide +kernel
theorem dX8_isWord_1 : decode cX8_isWord 1 = .ok (.ifCond .lt 13, 3) := by decide +kernel
theorem dX8_isWord_4 : decode cX8_isWord 4 = .ok (.iload_n 0, 1) := by decide +kernel
theorem dX8_isWord_5 : decode cX8_isWord 5 = .ok (.bipush 60, 2) := by decide +kernel
theorem dX8_isWord_7 : decode cX8_isWord 7 = .ok (.if_icmp .ge 7, 3) := by decide +kernel
theorem dX8_isWord_10 : decode cX8_isWord 10 = .ok (.iconst 1, 1) := by decide +kernel
theorem dX8_isWord_11 : decode cX8_isWord 11 = .ok (.goto 4, 3) := by decide +kernel
theorem dX8_isWord_14 : decode cX8_isWord 14 = .ok (.iconst 0, 1) := by decide +kernel
theorem dX8_isWord_15 : decode cX8_isWord 15 = .ok (.ireturn, 1) := by decide +kernel
theorem dX8_checkTag_0 : decode cX8_checkTag 0 = .ok (.iload_n 0, 1) := by decide +kernel
theorem dX8_checkTag_1 : decode cX8_checkTag 1 = .ok (.ifCond .lt 9, 3) := by decide +kernel
theorem dX8_checkTag_4 : decode cX8_checkTag 4 = .ok (.iload_n 0, 1) := by decide +kernel
theorem dX8_checkTag_5 : decode cX8_checkTag 5 = .ok (.bipush 6, 2) := by decide +kernel
theorem dX8_checkTag_7 : decode cX8_checkTag 7 = .ok (.if_icmp .lt 14, 3) := by decide +kernel
theorem dX8_checkTag_10 : decode cX8_checkTag 10 = .ok (.new 57, 3) := by decide +kernel
theorem dX8_checkTag_13 : decode cX8_checkTag 13 = .ok (.dup, 1) := by decide +kernel
theorem dX8_checkTag_14 : decode cX8_checkTag 14 = .ok (.ldc_w 313, 3) := by decide +kernel
theorem dX8_checkTag_17 : decode cX8_checkTag 17 = .ok (.invokespecial 61, 3) := by decide +kernel
theorem dX8_checkTag_20 : decode cX8_checkTag 20 = .ok (.athrow, 1) := by decide +kernel
theorem dX8_checkTag_21 : decode cX8_checkTag 21 = .ok (.return_, 1) := by decide +kernel
theorem dX8_checkDocument_0 : decode cX8_checkDocument 0 = .ok (.iload_n 1, 1) := by decide +kernel
theorem dX8_checkDocument_1 : decode cX8_checkDocument 1 = .ok (.ifCond .lt 14, 3) := by decide +kernel
theorem dX8_checkDocument_4 : decode cX8_checkDocument 4 = .ok (.iload_n 1, 1) := by decide +kernel
theorem dX8_checkDocument_5 : decode cX8_checkDocument 5 = .ok (.aload_n 0, 1) := by decide +kernel
theorem dX8_checkDocument_6 : decode cX8_checkDocument 6 = .ok (.getfield 16, 3) := by decide +kernel
theorem dX8_checkDocument_9 : decode cX8_checkDocument 9 = .ok (.invokevirtual 64, 3) := by decide +kernel
theorem dX8_checkDocument_12 : decode cX8_checkDocument 12 = .ok (.if_icmp .lt 14, 3) := by decide +kernel
theorem dX8_checkDocument_15 : decode cX8_checkDocument 15 = .ok (.new 166, 3) := by decide +kernel
theorem dX8_checkDocument_18 : decode cX8_checkDocument 18 = .ok (.dup, 1) := by decide +kernel
theorem dX8_checkDocument_19 : decode cX8_checkDocument 19 = .ok (.ldc_w 315, 3) := by decide +kernel
theorem dX8_checkDocument_22 : decode cX8_checkDocument 22 = .ok (.invokespecial 170, 3) := by decide +kernel
theorem dX8_checkDocument_25 : decode cX8_checkDocument 25 = .ok (.athrow, 1) := by decide +kernel
theorem dX8_checkDocument_26 : decode cX8_checkDocument 26 = .ok (.return_, 1) := by decide +kernel
theorem dX8_checkQuery_0 : decode cX8_checkQuery 0 = .ok (.iload_n 1, 1) := by decide +kernel
theorem dX8_checkQuery_1 : decode cX8_checkQuery 1 = .ok (.ifCond .lt 14, 3) := by decide +kernel
theorem dX8_checkQuery_4 : decode cX8_checkQuery 4 = .ok (.iload_n 1, 1) := by decide +kernel
theorem dX8_checkQuery_5 : decode cX8_checkQuery 5 = .ok (.aload_n 0, 1) := by decide +kernel
theorem dX8_checkQuery_6 : decode cX8_checkQuery 6 = .ok (.getfield 22, 3) := by decide +kernel
theorem dX8_checkQuery_9 : decode cX8_checkQuery 9 = .ok (.invokevirtual 64, 3) := by decide +kernel
theorem dX8_checkQuery_12 : decode cX8_checkQuery 12 = .ok (.if_icmp .lt 14, 3) := by decide +kernel
theorem dX8_checkQuery_15 : decode cX8_checkQuery 15 = .ok (.new 166, 3) := by decide +kernel
theorem dX8_checkQuery_18 : decode cX8_checkQuery 18 = .ok (.dup, 1) := by decide +kernel
theorem dX8_checkQuery_19 : decode cX8_checkQuery 19 = .ok (.ldc_w 317, 3) := by decide +kernel
theorem dX8_checkQuery_22 : decode cX8_checkQuery 22 = .ok (.invokespecial 170, 3) := by decide +kernel
theorem dX8_checkQuery_25 : decode cX8_checkQuery 25 = .ok (.athrow, 1) := by decide +kernel
theorem dX8_checkQuery_26 : decode cX8_checkQuery 26 = .ok (.return_, 1) := by decide +kernel
theorem dX8_slotOf_0 : decode cX8_slotOf 0 = .ok (.iconst 0, 1) := by decide +kernel
theorem dX8_slotOf_1 : decode cX8_slotOf 1 = .ok (.istore_n 2, 1) := by decide +kernel
theorem dX8_slotOf_2 : decode cX8_slotOf 2 = .ok (.iload_n 2, 1) := by decide +kernel
theorem dX8_slotOf_3 : decode cX8_slotOf 3 = .ok (.aload_n 0, 1) := by decide +kernel
theorem dX8_slotOf_4 : decode cX8_slotOf 4 = .ok (.getfield 19, 3) := by decide +kernel
theorem dX8_slotOf_7 : decode cX8_slotOf 7 = .ok (.invokevirtual 64, 3) := by decide +kernel
theorem dX8_slotOf_10 : decode cX8_slotOf 10 = .ok (.if_icmp .ge 29, 3) := by decide +kernel
theorem dX8_slotOf_13 : decode cX8_slotOf 13 = .ok (.aload_n 0, 1) := by decide +kernel
theorem dX8_slotOf_14 : decode cX8_slotOf 14 = .ok (.getfield 19, 3) := by decide +kernel
theorem dX8_slotOf_17 : decode cX8_slotOf 17 = .ok (.iload_n 2, 1) := by decide +kernel
theorem dX8_slotOf_18 : decode cX8_slotOf 18 = .ok (.invokevirtual 126, 3) := by decide +kernel
theorem dX8_slotOf_21 : decode cX8_slotOf 21 = .ok (.checkcast 201, 3) := by decide +kernel
theorem dX8_slotOf_24 : decode cX8_slotOf 24 = .ok (.getfield 319, 3) := by decide +kernel
theorem dX8_slotOf_27 : decode cX8_slotOf 27 = .ok (.iload_n 1, 1) := by decide +kernel
theorem dX8_slotOf_28 : decode cX8_slotOf 28 = .ok (.if_icmp .ne 5, 3) := by decide +kernel
theorem dX8_slotOf_31 : decode cX8_slotOf 31 = .ok (.iload_n 2, 1) := by decide +kernel
theorem dX8_slotOf_32 : decode cX8_slotOf 32 = .ok (.ireturn, 1) := by decide +kernel
theorem dX8_slotOf_33 : decode cX8_slotOf 33 = .ok (.iinc 2 1, 3) := by decide +kernel
theorem dX8_slotOf_36 : decode cX8_slotOf 36 = .ok (.goto (-34), 3) := by decide +kernel
theorem dX8_slotOf_39 : decode cX8_slotOf 39 = .ok (.iconst (-1), 1) := by decide +kernel
theorem dX8_slotOf_40 : decode cX8_slotOf 40 = .ok (.ireturn, 1) := by decide +kernel
theorem dX8_viewNumbered_0 : decode cX8_viewNumbered 0 = .ok (.aload_n 0, 1) := by decide +kernel
theorem dX8_viewNumbered_1 : decode cX8_viewNumbered 1 = .ok (.iload_n 1, 1) := by decide +kernel
theorem dX8_viewNumbered_2 : decode cX8_viewNumbered 2 = .ok (.invokevirtual 209, 3) := by decide +kernel
theorem dX8_viewNumbered_5 : decode cX8_viewNumbered 5 = .ok (.istore_n 2, 1) := by decide +kernel
theorem dX8_viewNumbered_6 : decode cX8_viewNumbered 6 = .ok (.iload_n 2, 1) := by decide +kernel
theorem dX8_viewNumbered_7 : decode cX8_viewNumbered 7 = .ok (.ifCond .ge 13, 3) := by decide +kernel
theorem dX8_viewNumbered_10 : decode cX8_viewNumbered 10 = .ok (.new 166, 3) := by decide +kernel
theorem dX8_viewNumbered_13 : decode cX8_viewNumbered 13 = .ok (.dup, 1) := by decide +kernel
theorem dX8_viewNumbered_14 : decode cX8_viewNumbered 14 = .ok (.ldc 212, 2) := by decide +kernel
theorem dX8_viewNumbered_16 : decode cX8_viewNumbered 16 = .ok (.invokespecial 170, 3) := by decide +kernel
theorem dX8_viewNumbered_19 : decode cX8_viewNumbered 19 = .ok (.athrow, 1) := by decide +kernel
theorem dX8_viewNumbered_20 : decode cX8_viewNumbered 20 = .ok (.aload_n 0, 1) := by decide +kernel
theorem dX8_viewNumbered_21 : decode cX8_viewNumbered 21 = .ok (.getfield 19, 3) := by decide +kernel
theorem dX8_viewNumbered_24 : decode cX8_viewNumbered 24 = .ok (.iload_n 2, 1) := by decide +kernel
theorem dX8_viewNumbered_25 : decode cX8_viewNumbered 25 = .ok (.invokevirtual 126, 3) := by decide +kernel
theorem dX8_viewNumbered_28 : decode cX8_viewNumbered 28 = .ok (.checkcast 201, 3) := by decide +kernel
theorem dX8_viewNumbered_31 : decode cX8_viewNumbered 31 = .ok (.areturn, 1) := by decide +kernel
theorem dX8_find_0 : decode cX8_find 0 = .ok (.aload_n 0, 1) := by decide +kernel
theorem dX8_find_1 : decode cX8_find 1 = .ok (.iload_n 1, 1) := by decide +kernel
theorem dX8_find_2 : decode cX8_find 2 = .ok (.invokevirtual 217, 3) := by decide +kernel
theorem dX8_find_5 : decode cX8_find 5 = .ok (.astore_n 3, 1) := by decide +kernel
theorem dX8_find_6 : decode cX8_find 6 = .ok (.aload_n 0, 1) := by decide +kernel
theorem dX8_find_7 : decode cX8_find 7 = .ok (.iload_n 2, 1) := by decide +kernel
theorem dX8_find_8 : decode cX8_find 8 = .ok (.invokevirtual 243, 3) := by decide +kernel
theorem dX8_find_11 : decode cX8_find 11 = .ok (.aload_n 0, 1) := by decide +kernel
theorem dX8_find_12 : decode cX8_find 12 = .ok (.getfield 47, 3) := by decide +kernel
theorem dX8_find_15 : decode cX8_find 15 = .ok (.aload_n 0, 1) := by decide +kernel
theorem dX8_find_16 : decode cX8_find 16 = .ok (.getfield 16, 3) := by decide +kernel
theorem dX8_find_19 : decode cX8_find 19 = .ok (.aload_n 0, 1) := by decide +kernel
theorem dX8_find_20 : decode cX8_find 20 = .ok (.getfield 22, 3) := by decide +kernel
theorem dX8_find_23 : decode cX8_find 23 = .ok (.aload_n 3, 1) := by decide +kernel
theorem dX8_find_24 : decode cX8_find 24 = .ok (.iload_n 2, 1) := by decide +kernel
theorem dX8_find_25 : decode cX8_find 25 = .ok (.aload_n 0, 1) := by decide +kernel
theorem dX8_find_26 : decode cX8_find 26 = .ok (.getfield 297, 3) := by decide +kernel
theorem dX8_find_29 : decode cX8_find 29 = .ok (.invokevirtual 322, 3) := by decide +kernel
theorem dX8_find_32 : decode cX8_find 32 = .ok (.aload_n 3, 1) := by decide +kernel
theorem dX8_find_33 : decode cX8_find 33 = .ok (.areturn, 1) := by decide +kernel
theorem dX9_init_0 : decode cX9_init 0 = .ok (.aload_n 0, 1) := by decide +kernel
theorem dX9_init_1 : decode cX9_init 1 = .ok (.invokespecial 1, 3) := by decide +kernel
theorem dX9_init_4 : decode cX9_init 4 = .ok (.aload_n 0, 1) := by decide +kernel
theorem dX9_init_5 : decode cX9_init 5 = .ok (.bipush 30, 2) := by decide +kernel
theorem dX9_init_7 : decode cX9_init 7 = .ok (.newarray .char, 2) := by decide +kernel
theorem dX9_init_9 : decode cX9_init 9 = .ok (.putfield 7, 3) := by decide +kernel
theorem dX9_init_12 : decode cX9_init 12 = .ok (.aload_n 0, 1) := by decide +kernel
theorem dX9_init_13 : decode cX9_init 13 = .ok (.bipush 40, 2) := by decide +kernel
theorem dX9_init_15 : decode cX9_init 15 = .ok (.anewarray 13, 3) := by decide +kernel
theorem dX9_init_18 : decode cX9_init 18 = .ok (.putfield 15, 3) := by decide +kernel
theorem dX9_init_21 : decode cX9_init 21 = .ok (.aload_n 0, 1) := by decide +kernel
theorem dX9_init_22 : decode cX9_init 22 = .ok (.bipush 30, 2) := by decide +kernel
theorem dX9_init_24 : decode cX9_init 24 = .ok (.newarray .char, 2) := by decide +kernel
theorem dX9_init_26 : decode cX9_init 26 = .ok (.putfield 19, 3) := by decide +kernel
theorem dX9_init_29 : decode cX9_init 29 = .ok (.aload_n 0, 1) := by decide +kernel
theorem dX9_init_30 : decode cX9_init 30 = .ok (.bipush 40, 2) := by decide +kernel
theorem dX9_init_32 : decode cX9_init 32 = .ok (.anewarray 13, 3) := by decide +kernel
theorem dX9_init_35 : decode cX9_init 35 = .ok (.putfield 22, 3) := by decide +kernel
theorem dX9_init_38 : decode cX9_init 38 = .ok (.aload_n 0, 1) := by decide +kernel
theorem dX9_init_39 : decode cX9_init 39 = .ok (.iconst 4, 1) := by decide +kernel
theorem dX9_init_40 : decode cX9_init 40 = .ok (.newarray .int, 2) := by decide +kernel
theorem dX9_init_42 : decode cX9_init 42 = .ok (.putfield 25, 3) := by decide +kernel
theorem dX9_init_45 : decode cX9_init 45 = .ok (.aload_n 0, 1) := by decide +kernel
theorem dX9_init_46 : decode cX9_init 46 = .ok (.iconst 4, 1) := by decide +kernel
theorem dX9_init_47 : decode cX9_init 47 = .ok (.anewarray 28, 3) := by decide +kernel
theorem dX9_init_50 : decode cX9_init 50 = .ok (.putfield 30, 3) := by decide +kernel
theorem dX9_init_53 : decode cX9_init 53 = .ok (.return_, 1) := by decide +kernel
theorem dX9_live_0 : decode cX9_live 0 = .ok (.bipush 30, 2) := by decide +kernel
theorem dX9_live_2 : decode cX9_live 2 = .ok (.newarray .int, 2) := by decide +kernel
theorem dX9_live_4 : decode cX9_live 4 = .ok (.astore_n 2, 1) := by decide +kernel
theorem dX9_live_5 : decode cX9_live 5 = .ok (.iconst 0, 1) := by decide +kernel
theorem dX9_live_6 : decode cX9_live 6 = .ok (.istore_n 3, 1) := by decide +kernel
theorem dX9_live_7 : decode cX9_live 7 = .ok (.iconst 0, 1) := by decide +kernel
theorem dX9_live_8 : decode cX9_live 8 = .ok (.istore 4, 2) := by decide +kernel
theorem dX9_live_10 : decode cX9_live 10 = .ok (.iload 4, 2) := by decide +kernel
theorem dX9_live_12 : decode cX9_live 12 = .ok (.aload_n 0, 1) := by decide +kernel
theorem dX9_live_13 : decode cX9_live 13 = .ok (.getfield 34, 3) := by decide +kernel
theorem dX9_live_16 : decode cX9_live 16 = .ok (.if_icmp .ge 28, 3) := by decide +kernel
theorem dX9_live_19 : decode cX9_live 19 = .ok (.aload_n 0, 1) := by decide +kernel
theorem dX9_live_20 : decode cX9_live 20 = .ok (.getfield 7, 3) := by decide +kernel
theorem dX9_live_23 : decode cX9_live 23 = .ok (.iload 4, 2) := by decide +kernel
theorem dX9_live_25 : decode cX9_live 25 = .ok (.caload, 1) := by decide +kernel
theorem dX9_live_26 : decode cX9_live 26 = .ok (.iload_n 1, 1) := by decide +kernel
theorem dX9_live_27 : decode cX9_live 27 = .ok (.if_icmp .ne 11, 3) := by decide +kernel
theorem dX9_live_30 : decode cX9_live 30 = .ok (.aload_n 2, 1) := by decide +kernel
theorem dX9_live_31 : decode cX9_live 31 = .ok (.iload_n 3, 1) := by decide +kernel
theorem dX9_live_32 : decode cX9_live 32 = .ok (.iload 4, 2) := by decide +kernel
theorem dX9_live_34 : decode cX9_live 34 = .ok (.iastore, 1) := by decide +kernel
theorem dX9_live_35 : decode cX9_live 35 = .ok (.iinc 3 1, 3) := by decide +kernel
theorem dX9_live_38 : decode cX9_live 38 = .ok (.iinc 4 1, 3) := by decide +kernel
theorem dX9_live_41 : decode cX9_live 41 = .ok (.goto (-31), 3) := by decide +kernel
theorem dX9_live_44 : decode cX9_live 44 = .ok (.iload_n 3, 1) := by decide +kernel
theorem dX9_live_45 : decode cX9_live 45 = .ok (.newarray .int, 2) := by decide +kernel
theorem dX9_live_47 : decode cX9_live 47 = .ok (.astore 4, 2) := by decide +kernel
theorem dX9_live_49 : decode cX9_live 49 = .ok (.iconst 0, 1) := by decide +kernel
theorem dX9_live_50 : decode cX9_live 50 = .ok (.istore 5, 2) := by decide +kernel
theorem dX9_live_52 : decode cX9_live 52 = .ok (.iload 5, 2) := by decide +kernel
theorem dX9_live_54 : decode cX9_live 54 = .ok (.iload_n 3, 1) := by decide +kernel
theorem dX9_live_55 : decode cX9_live 55 = .ok (.if_icmp .ge 18, 3) := by decide +kernel
theorem dX9_live_58 : decode cX9_live 58 = .ok (.aload 4, 2) := by decide +kernel
theorem dX9_live_60 : decode cX9_live 60 = .ok (.iload 5, 2) := by decide +kernel
theorem dX9_live_62 : decode cX9_live 62 = .ok (.aload_n 2, 1) := by decide +kernel
theorem dX9_live_63 : decode cX9_live 63 = .ok (.iload 5, 2) := by decide +kernel
theorem dX9_live_65 : decode cX9_live 65 = .ok (.iaload, 1) := by decide +kernel
theorem dX9_live_66 : decode cX9_live 66 = .ok (.iastore, 1) := by decide +kernel
theorem dX9_live_67 : decode cX9_live 67 = .ok (.iinc 5 1, 3) := by decide +kernel
theorem dX9_live_70 : decode cX9_live 70 = .ok (.goto (-18), 3) := by decide +kernel
theorem dX9_live_73 : decode cX9_live 73 = .ok (.aload 4, 2) := by decide +kernel
theorem dX9_live_75 : decode cX9_live 75 = .ok (.areturn, 1) := by decide +kernel
theorem dX9_write_0 : decode cX9_write 0 = .ok (.aload_n 0, 1) := by decide +kernel
theorem dX9_write_1 : decode cX9_write 1 = .ok (.bipush 98, 2) := by decide +kernel
theorem dX9_write_3 : decode cX9_write 3 = .ok (.invokevirtual 38, 3) := by decide +kernel
theorem dX9_write_6 : decode cX9_write 6 = .ok (.astore_n 1, 1) := by decide +kernel
theorem dX9_write_7 : decode cX9_write 7 = .ok (.aload_n 1, 1) := by decide +kernel
theorem dX9_write_8 : decode cX9_write 8 = .ok (.arraylength, 1) := by decide +kernel
theorem dX9_write_9 : decode cX9_write 9 = .ok (.ifCond .le 23, 3) := by decide +kernel
theorem dX9_write_12 : decode cX9_write 12 = .ok (.aload_n 0, 1) := by decide +kernel
theorem dX9_write_13 : decode cX9_write 13 = .ok (.getfield 15, 3) := by decide +kernel
theorem dX9_write_16 : decode cX9_write 16 = .ok (.aload_n 0, 1) := by decide +kernel
theorem dX9_write_17 : decode cX9_write 17 = .ok (.getfield 42, 3) := by decide +kernel
theorem dX9_write_20 : decode cX9_write 20 = .ok (.aload_n 1, 1) := by decide +kernel
theorem dX9_write_21 : decode cX9_write 21 = .ok (.aastore, 1) := by decide +kernel
theorem dX9_write_22 : decode cX9_write 22 = .ok (.aload_n 0, 1) := by decide +kernel
theorem dX9_write_23 : decode cX9_write 23 = .ok (.dup, 1) := by decide +kernel
theorem dX9_write_24 : decode cX9_write 24 = .ok (.getfield 42, 3) := by decide +kernel
theorem dX9_write_27 : decode cX9_write 27 = .ok (.iconst 1, 1) := by decide +kernel
theorem dX9_write_28 : decode cX9_write 28 = .ok (.iadd, 1) := by decide +kernel
theorem dX9_write_29 : decode cX9_write 29 = .ok (.putfield 42, 3) := by decide +kernel
theorem dX9_write_32 : decode cX9_write 32 = .ok (.aload_n 1, 1) := by decide +kernel
theorem dX9_write_33 : decode cX9_write 33 = .ok (.astore_n 2, 1) := by decide +kernel
theorem dX9_write_34 : decode cX9_write 34 = .ok (.aload_n 2, 1) := by decide +kernel
theorem dX9_write_35 : decode cX9_write 35 = .ok (.arraylength, 1) := by decide +kernel
theorem dX9_write_36 : decode cX9_write 36 = .ok (.istore_n 3, 1) := by decide +kernel
theorem dX9_write_37 : decode cX9_write 37 = .ok (.iconst 0, 1) := by decide +kernel
theorem dX9_write_38 : decode cX9_write 38 = .ok (.istore 4, 2) := by decide +kernel
theorem dX9_write_40 : decode cX9_write 40 = .ok (.iload 4, 2) := by decide +kernel
theorem dX9_write_42 : decode cX9_write 42 = .ok (.iload_n 3, 1) := by decide +kernel
theorem dX9_write_43 : decode cX9_write 43 = .ok (.if_icmp .ge 24, 3) := by decide +kernel
theorem dX9_write_46 : decode cX9_write 46 = .ok (.aload_n 2, 1) := by decide +kernel
theorem dX9_write_47 : decode cX9_write 47 = .ok (.iload 4, 2) := by decide +kernel
theorem dX9_write_49 : decode cX9_write 49 = .ok (.iaload, 1) := by decide +kernel
theorem dX9_write_50 : decode cX9_write 50 = .ok (.istore 5, 2) := by decide +kernel
theorem dX9_write_52 : decode cX9_write 52 = .ok (.aload_n 0, 1) := by decide +kernel
theorem dX9_write_53 : decode cX9_write 53 = .ok (.getfield 7, 3) := by decide +kernel
theorem dX9_write_56 : decode cX9_write 56 = .ok (.iload 5, 2) := by decide +kernel
theorem dX9_write_58 : decode cX9_write 58 = .ok (.bipush 115, 2) := by decide +kernel
theorem dX9_write_60 : decode cX9_write 60 = .ok (.castore, 1) := by decide +kernel
theorem dX9_write_61 : decode cX9_write 61 = .ok (.iinc 4 1, 3) := by decide +kernel
theorem dX9_write_64 : decode cX9_write 64 = .ok (.goto (-24), 3) := by decide +kernel
theorem dX9_write_67 : decode cX9_write 67 = .ok (.aload_n 1, 1) := by decide +kernel
theorem dX9_write_68 : decode cX9_write 68 = .ok (.arraylength, 1) := by decide +kernel
theorem dX9_write_69 : decode cX9_write 69 = .ok (.ireturn, 1) := by decide +kernel
theorem dX9_merge_0 : decode cX9_merge 0 = .ok (.aload_n 0, 1) := by decide +kernel
theorem dX9_merge_1 : decode cX9_merge 1 = .ok (.getfield 15, 3) := by decide +kernel
theorem dX9_merge_4 : decode cX9_merge 4 = .ok (.iload_n 1, 1) := by decide +kernel
theorem dX9_merge_5 : decode cX9_merge 5 = .ok (.aaload, 1) := by decide +kernel
theorem dX9_merge_6 : decode cX9_merge 6 = .ok (.arraylength, 1) := by decide +kernel
theorem dX9_merge_7 : decode cX9_merge 7 = .ok (.aload_n 0, 1) := by decide +kernel
theorem dX9_merge_8 : decode cX9_merge 8 = .ok (.getfield 15, 3) := by decide +kernel
theorem dX9_merge_11 : decode cX9_merge 11 = .ok (.iload_n 1, 1) := by decide +kernel
theorem dX9_merge_12 : decode cX9_merge 12 = .ok (.iconst 1, 1) := by decide +kernel
theorem dX9_merge_13 : decode cX9_merge 13 = .ok (.iadd, 1) := by decide +kernel
theorem dX9_merge_14 : decode cX9_merge 14 = .ok (.aaload, 1) := by decide +kernel
theorem dX9_merge_15 : decode cX9_merge 15 = .ok (.arraylength, 1) := by decide +kernel
theorem dX9_merge_16 : decode cX9_merge 16 = .ok (.iadd, 1) := by decide +kernel
theorem dX9_merge_17 : decode cX9_merge 17 = .ok (.newarray .int, 2) := by decide +kernel
theorem dX9_merge_19 : decode cX9_merge 19 = .ok (.astore_n 2, 1) := by decide +kernel
theorem dX9_merge_20 : decode cX9_merge 20 = .ok (.iconst 0, 1) := by decide +kernel
theorem dX9_merge_21 : decode cX9_merge 21 = .ok (.istore_n 3, 1) := by decide +kernel
theorem dX9_merge_22 : decode cX9_merge 22 = .ok (.iconst 0, 1) := by decide +kernel
theorem dX9_merge_23 : decode cX9_merge 23 = .ok (.istore 4, 2) := by decide +kernel
theorem dX9_merge_25 : decode cX9_merge 25 = .ok (.iload 4, 2) := by decide +kernel
theorem dX9_merge_27 : decode cX9_merge 27 = .ok (.aload_n 2, 1) := by decide +kernel
theorem dX9_merge_28 : decode cX9_merge 28 = .ok (.arraylength, 1) := by decide +kernel
theorem dX9_merge_29 : decode cX9_merge 29 = .ok (.if_icmp .ge 79, 3) := by decide +kernel
theorem dX9_merge_32 : decode cX9_merge 32 = .ok (.iload 4, 2) := by decide +kernel
theorem dX9_merge_34 : decode cX9_merge 34 = .ok (.aload_n 0, 1) := by decide +kernel
theorem dX9_merge_35 : decode cX9_merge 35 = .ok (.getfield 15, 3) := by decide +kernel
theorem dX9_merge_38 : decode cX9_merge 38 = .ok (.iload_n 1, 1) := by decide +kernel
theorem dX9_merge_39 : decode cX9_merge 39 = .ok (.aaload, 1) := by decide +kernel
theorem dX9_merge_40 : decode cX9_merge 40 = .ok (.arraylength, 1) := by decide +kernel
theorem dX9_merge_41 : decode cX9_merge 41 = .ok (.if_icmp .ge 15, 3) := by decide +kernel
theorem dX9_merge_44 : decode cX9_merge 44 = .ok (.aload_n 0, 1) := by decide +kernel
theorem dX9_merge_45 : decode cX9_merge 45 = .ok (.getfield 15, 3) := by decide +kernel
theorem dX9_merge_48 : decode cX9_merge 48 = .ok (.iload_n 1, 1) := by decide +kernel
theorem dX9_merge_49 : decode cX9_merge 49 = .ok (.aaload, 1) := by decide +kernel
theorem dX9_merge_50 : decode cX9_merge 50 = .ok (.iload 4, 2) := by decide +kernel
theorem dX9_merge_52 : decode cX9_merge 52 = .ok (.iaload, 1) := by decide +kernel
theorem dX9_merge_53 : decode cX9_merge 53 = .ok (.goto 22, 3) := by decide +kernel
theorem dX9_merge_56 : decode cX9_merge 56 = .ok (.aload_n 0, 1) := by decide +kernel
theorem dX9_merge_57 : decode cX9_merge 57 = .ok (.getfield 15, 3) := by decide +kernel
theorem dX9_merge_60 : decode cX9_merge 60 = .ok (.iload_n 1, 1) := by decide +kernel
theorem dX9_merge_61 : decode cX9_merge 61 = .ok (.iconst 1, 1) := by decide +kernel
theorem dX9_merge_62 : decode cX9_merge 62 = .ok (.iadd, 1) := by decide +kernel
theorem dX9_merge_63 : decode cX9_merge 63 = .ok (.aaload, 1) := by decide +kernel
theorem dX9_merge_64 : decode cX9_merge 64 = .ok (.iload 4, 2) := by decide +kernel
theorem dX9_merge_66 : decode cX9_merge 66 = .ok (.aload_n 0, 1) := by decide +kernel
theorem dX9_merge_67 : decode cX9_merge 67 = .ok (.getfield 15, 3) := by decide +kernel
theorem dX9_merge_70 : decode cX9_merge 70 = .ok (.iload_n 1, 1) := by decide +kernel
theorem dX9_merge_71 : decode cX9_merge 71 = .ok (.aaload, 1) := by decide +kernel
theorem dX9_merge_72 : decode cX9_merge 72 = .ok (.arraylength, 1) := by decide +kernel
theorem dX9_merge_73 : decode cX9_merge 73 = .ok (.isub, 1) := by decide +kernel
theorem dX9_merge_74 : decode cX9_merge 74 = .ok (.iaload, 1) := by decide +kernel
theorem dX9_merge_75 : decode cX9_merge 75 = .ok (.istore 5, 2) := by decide +kernel
theorem dX9_merge_77 : decode cX9_merge 77 = .ok (.aload_n 2, 1) := by decide +kernel
theorem dX9_merge_78 : decode cX9_merge 78 = .ok (.iload_n 3, 1) := by decide +kernel
theorem dX9_merge_79 : decode cX9_merge 79 = .ok (.iload 5, 2) := by decide +kernel
theorem dX9_merge_81 : decode cX9_merge 81 = .ok (.iastore, 1) := by decide +kernel
theorem dX9_merge_82 : decode cX9_merge 82 = .ok (.iload_n 3, 1) := by decide +kernel
theorem dX9_merge_83 : decode cX9_merge 83 = .ok (.aload_n 0, 1) := by decide +kernel
theorem dX9_merge_84 : decode cX9_merge 84 = .ok (.getfield 7, 3) := by decide +kernel
theorem dX9_merge_87 : decode cX9_merge 87 = .ok (.iload 5, 2) := by decide +kernel
theorem dX9_merge_89 : decode cX9_merge 89 = .ok (.caload, 1) := by decide +kernel
theorem dX9_merge_90 : decode cX9_merge 90 = .ok (.bipush 115, 2) := by decide +kernel
theorem dX9_merge_92 : decode cX9_merge 92 = .ok (.if_icmp .ne 7, 3) := by decide +kernel
theorem dX9_merge_95 : decode cX9_merge 95 = .ok (.iconst 1, 1) := by decide +kernel
theorem dX9_merge_96 : decode cX9_merge 96 = .ok (.goto 4, 3) := by decide +kernel
theorem dX9_merge_99 : decode cX9_merge 99 = .ok (.iconst 0, 1) := by decide +kernel
theorem dX9_merge_100 : decode cX9_merge 100 = .ok (.iadd, 1) := by decide +kernel
theorem dX9_merge_101 : decode cX9_merge 101 = .ok (.istore_n 3, 1) := by decide +kernel
theorem dX9_merge_102 : decode cX9_merge 102 = .ok (.iinc 4 1, 3) := by decide +kernel
theorem dX9_merge_105 : decode cX9_merge 105 = .ok (.goto (-80), 3) := by decide +kernel
theorem dX9_merge_108 : decode cX9_merge 108 = .ok (.iload_n 3, 1) := by decide +kernel
theorem dX9_merge_109 : decode cX9_merge 109 = .ok (.newarray .int, 2) := by decide +kernel
theorem dX9_merge_111 : decode cX9_merge 111 = .ok (.astore 4, 2) := by decide +kernel
theorem dX9_merge_113 : decode cX9_merge 113 = .ok (.iconst 0, 1) := by decide +kernel
theorem dX9_merge_114 : decode cX9_merge 114 = .ok (.istore 5, 2) := by decide +kernel
theorem dX9_merge_116 : decode cX9_merge 116 = .ok (.iload 5, 2) := by decide +kernel
theorem dX9_merge_118 : decode cX9_merge 118 = .ok (.iload_n 3, 1) := by decide +kernel
theorem dX9_merge_119 : decode cX9_merge 119 = .ok (.if_icmp .ge 18, 3) := by decide +kernel
theorem dX9_merge_122 : decode cX9_merge 122 = .ok (.aload 4, 2) := by decide +kernel
theorem dX9_merge_124 : decode cX9_merge 124 = .ok (.iload 5, 2) := by decide +kernel
theorem dX9_merge_126 : decode cX9_merge 126 = .ok (.aload_n 2, 1) := by decide +kernel
theorem dX9_merge_127 : decode cX9_merge 127 = .ok (.iload 5, 2) := by decide +kernel
theorem dX9_merge_129 : decode cX9_merge 129 = .ok (.iaload, 1) := by decide +kernel
theorem dX9_merge_130 : decode cX9_merge 130 = .ok (.iastore, 1) := by decide +kernel
theorem dX9_merge_131 : decode cX9_merge 131 = .ok (.iinc 5 1, 3) := by decide +kernel
theorem dX9_merge_134 : decode cX9_merge 134 = .ok (.goto (-18), 3) := by decide +kernel
theorem dX9_merge_137 : decode cX9_merge 137 = .ok (.aload_n 0, 1) := by decide +kernel
theorem dX9_merge_138 : decode cX9_merge 138 = .ok (.getfield 15, 3) := by decide +kernel
theorem dX9_merge_141 : decode cX9_merge 141 = .ok (.iload_n 1, 1) := by decide +kernel
theorem dX9_merge_142 : decode cX9_merge 142 = .ok (.aload 4, 2) := by decide +kernel
theorem dX9_merge_144 : decode cX9_merge 144 = .ok (.aastore, 1) := by decide +kernel
theorem dX9_merge_145 : decode cX9_merge 145 = .ok (.iload_n 3, 1) := by decide +kernel
theorem dX9_merge_146 : decode cX9_merge 146 = .ok (.ifCond .ne 7, 3) := by decide +kernel
theorem dX9_merge_149 : decode cX9_merge 149 = .ok (.iconst 2, 1) := by decide +kernel
theorem dX9_merge_150 : decode cX9_merge 150 = .ok (.goto 4, 3) := by decide +kernel
theorem dX9_merge_153 : decode cX9_merge 153 = .ok (.iconst 1, 1) := by decide +kernel
theorem dX9_merge_154 : decode cX9_merge 154 = .ok (.istore 5, 2) := by decide +kernel
theorem dX9_merge_156 : decode cX9_merge 156 = .ok (.iload_n 3, 1) := by decide +kernel
theorem dX9_merge_157 : decode cX9_merge 157 = .ok (.ifCond .ne 7, 3) := by decide +kernel
theorem dX9_merge_160 : decode cX9_merge 160 = .ok (.iload_n 1, 1) := by decide +kernel
theorem dX9_merge_161 : decode cX9_merge 161 = .ok (.goto 6, 3) := by decide +kernel
theorem dX9_merge_164 : decode cX9_merge 164 = .ok (.iload_n 1, 1) := by decide +kernel
theorem dX9_merge_165 : decode cX9_merge 165 = .ok (.iconst 1, 1) := by decide +kernel
theorem dX9_merge_166 : decode cX9_merge 166 = .ok (.iadd, 1) := by decide +kernel
theorem dX9_merge_167 : decode cX9_merge 167 = .ok (.istore 6, 2) := by decide +kernel
theorem dX9_merge_169 : decode cX9_merge 169 = .ok (.iload 6, 2) := by decide +kernel
theorem dX9_merge_171 : decode cX9_merge 171 = .ok (.iload 5, 2) := by decide +kernel
theorem dX9_merge_173 : decode cX9_merge 173 = .ok (.iadd, 1) := by decide +kernel
theorem dX9_merge_174 : decode cX9_merge 174 = .ok (.aload_n 0, 1) := by decide +kernel
theorem dX9_merge_175 : decode cX9_merge 175 = .ok (.getfield 42, 3) := by decide +kernel
theorem dX9_merge_178 : decode cX9_merge 178 = .ok (.if_icmp .ge 26, 3) := by decide +kernel
theorem dX9_merge_181 : decode cX9_merge 181 = .ok (.aload_n 0, 1) := by decide +kernel
theorem dX9_merge_182 : decode cX9_merge 182 = .ok (.getfield 15, 3) := by decide +kernel
theorem dX9_merge_185 : decode cX9_merge 185 = .ok (.iload 6, 2) := by decide +kernel
theorem dX9_merge_187 : decode cX9_merge 187 = .ok (.aload_n 0, 1) := by decide +kernel
theorem dX9_merge_188 : decode cX9_merge 188 = .ok (.getfield 15, 3) := by decide +kernel
theorem dX9_merge_191 : decode cX9_merge 191 = .ok (.iload 6, 2) := by decide +kernel
theorem dX9_merge_193 : decode cX9_merge 193 = .ok (.iload 5, 2) := by decide +kernel
theorem dX9_merge_195 : decode cX9_merge 195 = .ok (.iadd, 1) := by decide +kernel
theorem dX9_merge_196 : decode cX9_merge 196 = .ok (.aaload, 1) := by decide +kernel
theorem dX9_merge_197 : decode cX9_merge 197 = .ok (.aastore, 1) := by decide +kernel
theorem dX9_merge_198 : decode cX9_merge 198 = .ok (.iinc 6 1, 3) := by decide +kernel
theorem dX9_merge_201 : decode cX9_merge 201 = .ok (.goto (-32), 3) := by decide +kernel
theorem dX9_merge_204 : decode cX9_merge 204 = .ok (.aload_n 0, 1) := by decide +kernel
theorem dX9_merge_205 : decode cX9_merge 205 = .ok (.dup, 1) := by decide +kernel
theorem dX9_merge_206 : decode cX9_merge 206 = .ok (.getfield 42, 3) := by decide +kernel
theorem dX9_merge_209 : decode cX9_merge 209 = .ok (.iload 5, 2) := by decide +kernel
theorem dX9_merge_211 : decode cX9_merge 211 = .ok (.isub, 1) := by decide +kernel
theorem dX9_merge_212 : decode cX9_merge 212 = .ok (.putfield 42, 3) := by decide +kernel
theorem dX9_merge_215 : decode cX9_merge 215 = .ok (.aload_n 2, 1) := by decide +kernel
theorem dX9_merge_216 : decode cX9_merge 216 = .ok (.arraylength, 1) := by decide +kernel
theorem dX9_merge_217 : decode cX9_merge 217 = .ok (.iload_n 3, 1) := by decide +kernel
theorem dX9_merge_218 : decode cX9_merge 218 = .ok (.isub, 1) := by decide +kernel
theorem dX9_merge_219 : decode cX9_merge 219 = .ok (.ireturn, 1) := by decide +kernel
theorem dX9_commit_0 : decode cX9_commit 0 = .ok (.aload_n 0, 1) := by decide +kernel
theorem dX9_commit_1 : decode cX9_commit 1 = .ok (.invokevirtual 45, 3) := by decide +kernel
theorem dX9_commit_4 : decode cX9_commit 4 = .ok (.istore_n 1, 1) := by decide +kernel
theorem dX9_commit_5 : decode cX9_commit 5 = .ok (.aload_n 0, 1) := by decide +kernel
theorem dX9_commit_6 : decode cX9_commit 6 = .ok (.dup, 1) := by decide +kernel
theorem dX9_commit_7 : decode cX9_commit 7 = .ok (.getfield 49, 3) := by decide +kernel
theorem dX9_commit_10 : decode cX9_commit 10 = .ok (.iconst 1, 1) := by decide +kernel
theorem dX9_commit_11 : decode cX9_commit 11 = .ok (.iadd, 1) := by decide +kernel
theorem dX9_commit_12 : decode cX9_commit 12 = .ok (.putfield 49, 3) := by decide +kernel
theorem dX9_commit_15 : decode cX9_commit 15 = .ok (.aload_n 0, 1) := by decide +kernel
theorem dX9_commit_16 : decode cX9_commit 16 = .ok (.iconst 1, 1) := by decide +kernel
theorem dX9_commit_17 : decode cX9_commit 17 = .ok (.putfield 52, 3) := by decide +kernel
theorem dX9_commit_20 : decode cX9_commit 20 = .ok (.aload_n 0, 1) := by decide +kernel
theorem dX9_commit_21 : decode cX9_commit 21 = .ok (.aload_n 0, 1) := by decide +kernel
theorem dX9_commit_22 : decode cX9_commit 22 = .ok (.getfield 34, 3) := by decide +kernel
theorem dX9_commit_25 : decode cX9_commit 25 = .ok (.putfield 56, 3) := by decide +kernel
theorem dX9_commit_28 : decode cX9_commit 28 = .ok (.aload_n 0, 1) := by decide +kernel
theorem dX9_commit_29 : decode cX9_commit 29 = .ok (.aload_n 0, 1) := by decide +kernel
theorem dX9_commit_30 : decode cX9_commit 30 = .ok (.getfield 7, 3) := by decide +kernel
theorem dX9_commit_33 : decode cX9_commit 33 = .ok (.invokevirtual 59, 3) := by decide +kernel
theorem dX9_commit_36 : decode cX9_commit 36 = .ok (.checkcast 60, 3) := by decide +kernel
theorem dX9_commit_39 : decode cX9_commit 39 = .ok (.putfield 19, 3) := by decide +kernel
theorem dX9_commit_42 : decode cX9_commit 42 = .ok (.aload_n 0, 1) := by decide +kernel
theorem dX9_commit_43 : decode cX9_commit 43 = .ok (.aload_n 0, 1) := by decide +kernel
theorem dX9_commit_44 : decode cX9_commit 44 = .ok (.getfield 42, 3) := by decide +kernel
theorem dX9_commit_47 : decode cX9_commit 47 = .ok (.putfield 64, 3) := by decide +kernel
theorem dX9_commit_50 : decode cX9_commit 50 = .ok (.aload_n 0, 1) := by decide +kernel
theorem dX9_commit_51 : decode cX9_commit 51 = .ok (.aload_n 0, 1) := by decide +kernel
theorem dX9_commit_52 : decode cX9_commit 52 = .ok (.getfield 15, 3) := by decide +kernel
theorem dX9_commit_55 : decode cX9_commit 55 = .ok (.invokevirtual 67, 3) := by decide +kernel
theorem dX9_commit_58 : decode cX9_commit 58 = .ok (.checkcast 68, 3) := by decide +kernel
theorem dX9_commit_61 : decode cX9_commit 61 = .ok (.putfield 22, 3) := by decide +kernel
theorem dX9_commit_64 : decode cX9_commit 64 = .ok (.return_, 1) := by decide +kernel
theorem dX9_crash_0 : decode cX9_crash 0 = .ok (.iconst 0, 1) := by decide +kernel
theorem dX9_crash_1 : decode cX9_crash 1 = .ok (.istore_n 1, 1) := by decide +kernel
theorem dX9_crash_2 : decode cX9_crash 2 = .ok (.iconst 0, 1) := by decide +kernel
theorem dX9_crash_3 : decode cX9_crash 3 = .ok (.istore_n 2, 1) := by decide +kernel
theorem dX9_crash_4 : decode cX9_crash 4 = .ok (.iload_n 2, 1) := by decide +kernel
theorem dX9_crash_5 : decode cX9_crash 5 = .ok (.aload_n 0, 1) := by decide +kernel
theorem dX9_crash_6 : decode cX9_crash 6 = .ok (.getfield 34, 3) := by decide +kernel
theorem dX9_crash_9 : decode cX9_crash 9 = .ok (.if_icmp .ge 85, 3) := by decide +kernel
theorem dX9_crash_12 : decode cX9_crash 12 = .ok (.iload_n 2, 1) := by decide +kernel
theorem dX9_crash_13 : decode cX9_crash 13 = .ok (.aload_n 0, 1) := by decide +kernel
theorem dX9_crash_14 : decode cX9_crash 14 = .ok (.getfield 56, 3) := by decide +kernel
theorem dX9_crash_17 : decode cX9_crash 17 = .ok (.if_icmp .ge 12, 3) := by decide +kernel
theorem dX9_crash_20 : decode cX9_crash 20 = .ok (.aload_n 0, 1) := by decide +kernel
theorem dX9_crash_21 : decode cX9_crash 21 = .ok (.getfield 19, 3) := by decide +kernel
theorem dX9_crash_24 : decode cX9_crash 24 = .ok (.iload_n 2, 1) := by decide +kernel
theorem dX9_crash_25 : decode cX9_crash 25 = .ok (.caload, 1) := by decide +kernel
theorem dX9_crash_26 : decode cX9_crash 26 = .ok (.goto 5, 3) := by decide +kernel
theorem dX9_crash_29 : decode cX9_crash 29 = .ok (.bipush 108, 2) := by decide +kernel
theorem dX9_crash_31 : decode cX9_crash 31 = .ok (.istore_n 3, 1) := by decide +kernel
theorem dX9_crash_32 : decode cX9_crash 32 = .ok (.iload_n 1, 1) := by decide +kernel
theorem dX9_crash_33 : decode cX9_crash 33 = .ok (.aload_n 0, 1) := by decide +kernel
theorem dX9_crash_34 : decode cX9_crash 34 = .ok (.getfield 7, 3) := by decide +kernel
theorem dX9_crash_37 : decode cX9_crash 37 = .ok (.iload_n 2, 1) := by decide +kernel
theorem dX9_crash_38 : decode cX9_crash 38 = .ok (.caload, 1) := by decide +kernel
theorem dX9_crash_39 : decode cX9_crash 39 = .ok (.bipush 98, 2) := by decide +kernel
theorem dX9_crash_41 : decode cX9_crash 41 = .ok (.if_icmp .eq 14, 3) := by decide +kernel
theorem dX9_crash_44 : decode cX9_crash 44 = .ok (.aload_n 0, 1) := by decide +kernel
theorem dX9_crash_45 : decode cX9_crash 45 = .ok (.getfield 7, 3) := by decide +kernel
theorem dX9_crash_48 : decode cX9_crash 48 = .ok (.iload_n 2, 1) := by decide +kernel
theorem dX9_crash_49 : decode cX9_crash 49 = .ok (.caload, 1) := by decide +kernel
theorem dX9_crash_50 : decode cX9_crash 50 = .ok (.bipush 115, 2) := by decide +kernel
theorem dX9_crash_52 : decode cX9_crash 52 = .ok (.if_icmp .ne 7, 3) := by decide +kernel
theorem dX9_crash_55 : decode cX9_crash 55 = .ok (.iconst 1, 1) := by decide +kernel
theorem dX9_crash_56 : decode cX9_crash 56 = .ok (.goto 4, 3) := by decide +kernel
theorem dX9_crash_59 : decode cX9_crash 59 = .ok (.iconst 0, 1) := by decide +kernel
theorem dX9_crash_60 : decode cX9_crash 60 = .ok (.iload_n 3, 1) := by decide +kernel
theorem dX9_crash_61 : decode cX9_crash 61 = .ok (.bipush 115, 2) := by decide +kernel
theorem dX9_crash_63 : decode cX9_crash 63 = .ok (.if_icmp .ne 7, 3) := by decide +kernel
theorem dX9_crash_66 : decode cX9_crash 66 = .ok (.iconst 1, 1) := by decide +kernel
theorem dX9_crash_67 : decode cX9_crash 67 = .ok (.goto 4, 3) := by decide +kernel
theorem dX9_crash_70 : decode cX9_crash 70 = .ok (.iconst 0, 1) := by decide +kernel
theorem dX9_crash_71 : decode cX9_crash 71 = .ok (.if_icmp .eq 7, 3) := by decide +kernel
theorem dX9_crash_74 : decode cX9_crash 74 = .ok (.iconst 1, 1) := by decide +kernel
theorem dX9_crash_75 : decode cX9_crash 75 = .ok (.goto 4, 3) := by decide +kernel
theorem dX9_crash_78 : decode cX9_crash 78 = .ok (.iconst 0, 1) := by decide +kernel
theorem dX9_crash_79 : decode cX9_crash 79 = .ok (.iadd, 1) := by decide +kernel
theorem dX9_crash_80 : decode cX9_crash 80 = .ok (.istore_n 1, 1) := by decide +kernel
theorem dX9_crash_81 : decode cX9_crash 81 = .ok (.aload_n 0, 1) := by decide +kernel
theorem dX9_crash_82 : decode cX9_crash 82 = .ok (.getfield 7, 3) := by decide +kernel
theorem dX9_crash_85 : decode cX9_crash 85 = .ok (.iload_n 2, 1) := by decide +kernel
theorem dX9_crash_86 : decode cX9_crash 86 = .ok (.iload_n 3, 1) := by decide +kernel
theorem dX9_crash_87 : decode cX9_crash 87 = .ok (.castore, 1) := by decide +kernel
theorem dX9_crash_88 : decode cX9_crash 88 = .ok (.iinc 2 1, 3) := by decide +kernel
theorem dX9_crash_91 : decode cX9_crash 91 = .ok (.goto (-87), 3) := by decide +kernel
theorem dX9_crash_94 : decode cX9_crash 94 = .ok (.aload_n 0, 1) := by decide +kernel
theorem dX9_crash_95 : decode cX9_crash 95 = .ok (.aload_n 0, 1) := by decide +kernel
theorem dX9_crash_96 : decode cX9_crash 96 = .ok (.getfield 64, 3) := by decide +kernel
theorem dX9_crash_99 : decode cX9_crash 99 = .ok (.putfield 42, 3) := by decide +kernel
theorem dX9_crash_102 : decode cX9_crash 102 = .ok (.aload_n 0, 1) := by decide +kernel
theorem dX9_crash_103 : decode cX9_crash 103 = .ok (.aload_n 0, 1) := by decide +kernel
theorem dX9_crash_104 : decode cX9_crash 104 = .ok (.getfield 22, 3) := by decide +kernel
theorem dX9_crash_107 : decode cX9_crash 107 = .ok (.invokevirtual 67, 3) := by decide +kernel
theorem dX9_crash_110 : decode cX9_crash 110 = .ok (.checkcast 68, 3) := by decide +kernel
theorem dX9_crash_113 : decode cX9_crash 113 = .ok (.putfield 15, 3) := by decide +kernel
theorem dX9_crash_116 : decode cX9_crash 116 = .ok (.aload_n 0, 1) := by decide +kernel
theorem dX9_crash_117 : decode cX9_crash 117 = .ok (.iconst 0, 1) := by decide +kernel
theorem dX9_crash_118 : decode cX9_crash 118 = .ok (.putfield 69, 3) := by decide +kernel
theorem dX9_crash_121 : decode cX9_crash 121 = .ok (.iload_n 1, 1) := by decide +kernel
theorem dX9_crash_122 : decode cX9_crash 122 = .ok (.ireturn, 1) := by decide +kernel
theorem dX9_seen_0 : decode cX9_seen 0 = .ok (.iconst 0, 1) := by decide +kernel
theorem dX9_seen_1 : decode cX9_seen 1 = .ok (.istore_n 2, 1) := by decide +kernel
theorem dX9_seen_2 : decode cX9_seen 2 = .ok (.aload_n 0, 1) := by decide +kernel
theorem dX9_seen_3 : decode cX9_seen 3 = .ok (.getfield 30, 3) := by decide +kernel
theorem dX9_seen_6 : decode cX9_seen 6 = .ok (.iload_n 1, 1) := by decide +kernel
theorem dX9_seen_7 : decode cX9_seen 7 = .ok (.aaload, 1) := by decide +kernel
theorem dX9_seen_8 : decode cX9_seen 8 = .ok (.astore_n 3, 1) := by decide +kernel
theorem dX9_seen_9 : decode cX9_seen 9 = .ok (.aload_n 3, 1) := by decide +kernel
theorem dX9_seen_10 : decode cX9_seen 10 = .ok (.arraylength, 1) := by decide +kernel
theorem dX9_seen_11 : decode cX9_seen 11 = .ok (.istore 4, 2) := by decide +kernel
theorem dX9_seen_13 : decode cX9_seen 13 = .ok (.iconst 0, 1) := by decide +kernel
theorem dX9_seen_14 : decode cX9_seen 14 = .ok (.istore 5, 2) := by decide +kernel
theorem dX9_seen_16 : decode cX9_seen 16 = .ok (.iload 5, 2) := by decide +kernel
theorem dX9_seen_18 : decode cX9_seen 18 = .ok (.iload 4, 2) := by decide +kernel
theorem dX9_seen_20 : decode cX9_seen 20 = .ok (.if_icmp .ge 28, 3) := by decide +kernel
theorem dX9_seen_23 : decode cX9_seen 23 = .ok (.aload_n 3, 1) := by decide +kernel
theorem dX9_seen_24 : decode cX9_seen 24 = .ok (.iload 5, 2) := by decide +kernel
theorem dX9_seen_26 : decode cX9_seen 26 = .ok (.baload, 1) := by decide +kernel
theorem dX9_seen_27 : decode cX9_seen 27 = .ok (.istore 6, 2) := by decide +kernel
theorem dX9_seen_29 : decode cX9_seen 29 = .ok (.iload_n 2, 1) := by decide +kernel
theorem dX9_seen_30 : decode cX9_seen 30 = .ok (.iload 6, 2) := by decide +kernel
theorem dX9_seen_32 : decode cX9_seen 32 = .ok (.ifCond .eq 7, 3) := by decide +kernel
theorem dX9_seen_35 : decode cX9_seen 35 = .ok (.iconst 1, 1) := by decide +kernel
theorem dX9_seen_36 : decode cX9_seen 36 = .ok (.goto 4, 3) := by decide +kernel
theorem dX9_seen_39 : decode cX9_seen 39 = .ok (.iconst 0, 1) := by decide +kernel
theorem dX9_seen_40 : decode cX9_seen 40 = .ok (.iadd, 1) := by decide +kernel
theorem dX9_seen_41 : decode cX9_seen 41 = .ok (.istore_n 2, 1) := by decide +kernel
theorem dX9_seen_42 : decode cX9_seen 42 = .ok (.iinc 5 1, 3) := by decide +kernel
theorem dX9_seen_45 : decode cX9_seen 45 = .ok (.goto (-29), 3) := by decide +kernel
theorem dX9_seen_48 : decode cX9_seen 48 = .ok (.iload_n 2, 1) := by decide +kernel
theorem dX9_seen_49 : decode cX9_seen 49 = .ok (.ireturn, 1) := by decide +kernel
theorem dJx00060_init_a7421_0 : decode cJx00060_init_a7421 0 = .ok (.aload_n 0, 1) := by decide +kernel
theorem dJx00060_init_a7421_1 : decode cJx00060_init_a7421 1 = .ok (.aload_n 1, 1) := by decide +kernel
theorem dJx00060_init_a7421_2 : decode cJx00060_init_a7421 2 = .ok (.invokespecial 7, 3) := by decide +kernel
theorem dJx00060_init_a7421_5 : decode cJx00060_init_a7421 5 = .ok (.return_, 1) := by decide +kernel
theorem dJ9_max_7cf53_0 : decode cJ9_max_7cf53 0 = .ok (.iload_n 0, 1) := by decide +kernel
theorem dJ9_max_7cf53_1 : decode cJ9_max_7cf53 1 = .ok (.iload_n 1, 1) := by decide +kernel
theorem dJ9_max_7cf53_2 : decode cJ9_max_7cf53 2 = .ok (.if_icmp .lt 7, 3) := by decide +kernel
theorem dJ9_max_7cf53_5 : decode cJ9_max_7cf53 5 = .ok (.iload_n 0, 1) := by decide +kernel
theorem dJ9_max_7cf53_6 : decode cJ9_max_7cf53 6 = .ok (.goto 4, 3) := by decide +kernel
theorem dJ9_max_7cf53_9 : decode cJ9_max_7cf53 9 = .ok (.iload_n 1, 1) := by decide +kernel
theorem dJ9_max_7cf53_10 : decode cJ9_max_7cf53 10 = .ok (.ireturn, 1) := by decide +kernel
theorem dJ9_min_7cf53_0 : decode cJ9_min_7cf53 0 = .ok (.iload_n 0, 1) := by decide +kernel
theorem dJ9_min_7cf53_1 : decode cJ9_min_7cf53 1 = .ok (.iload_n 1, 1) := by decide +kernel
theorem dJ9_min_7cf53_2 : decode cJ9_min_7cf53 2 = .ok (.if_icmp .gt 7, 3) := by decide +kernel
theorem dJ9_min_7cf53_5 : decode cJ9_min_7cf53 5 = .ok (.iload_n 0, 1) := by decide +kernel
theorem dJ9_min_7cf53_6 : decode cJ9_min_7cf53 6 = .ok (.goto 4, 3) := by decide +kernel
theorem dJ9_min_7cf53_9 : decode cJ9_min_7cf53 9 = .ok (.iload_n 1, 1) := by decide +kernel
theorem dJ9_min_7cf53_10 : decode cJ9_min_7cf53 10 = .ok (.ireturn, 1) := by decide +kernel
theorem dJxa1e45_init_da8c8_0 : decode cJxa1e45_init_da8c8 0 = .ok (.aload_n 0, 1) := by decide +kernel
theorem dJxa1e45_init_da8c8_1 : decode cJxa1e45_init_da8c8 1 = .ok (.invokespecial 1, 3) := by decide +kernel
theorem dJxa1e45_init_da8c8_4 : decode cJxa1e45_init_da8c8 4 = .ok (.return_, 1) := by decide +kernel
theorem dJxc12de_init_da8c8_0 : decode cJxc12de_init_da8c8 0 = .ok (.aload_n 0, 1) := by decide +kernel
theorem dJxc12de_init_da8c8_1 : decode cJxc12de_init_da8c8 1 = .ok (.invokespecial 1, 3) := by decide +kernel
theorem dJxc12de_init_da8c8_4 : decode cJxc12de_init_da8c8 4 = .ok (.aload_n 0, 1) := by decide +kernel
theorem dJxc12de_init_da8c8_5 : decode cJxc12de_init_da8c8 5 = .ok (.iconst 0, 1) := by decide +kernel
theorem dJxc12de_init_da8c8_6 : decode cJxc12de_init_da8c8 6 = .ok (.putfield 7, 3) := by decide +kernel
theorem dJxc12de_init_da8c8_9 : decode cJxc12de_init_da8c8 9 = .ok (.return_, 1) := by decide +kernel
theorem dJx4a65c_init_da8c8_0 : decode cJx4a65c_init_da8c8 0 = .ok (.aload_n 0, 1) := by decide +kernel
theorem dJx4a65c_init_da8c8_1 : decode cJx4a65c_init_da8c8 1 = .ok (.invokespecial 1, 3) := by decide +kernel
theorem dJx4a65c_init_da8c8_4 : decode cJx4a65c_init_da8c8 4 = .ok (.aload_n 0, 1) := by decide +kernel
theorem dJx4a65c_init_da8c8_5 : decode cJx4a65c_init_da8c8 5 = .ok (.getstatic 39, 3) := by decide +kernel
theorem dJx4a65c_init_da8c8_8 : decode cJx4a65c_init_da8c8 8 = .ok (.putfield 9, 3) := by decide +kernel
theorem dJx4a65c_init_da8c8_11 : decode cJx4a65c_init_da8c8 11 = .ok (.return_, 1) := by decide +kernel
theorem dJx4a65c_grow_92f84_0 : decode cJx4a65c_grow_92f84 0 = .ok (.aload_n 0, 1) := by decide +kernel
theorem dJx4a65c_grow_92f84_1 : decode cJx4a65c_grow_92f84 1 = .ok (.getfield 9, 3) := by decide +kernel
theorem dJx4a65c_grow_92f84_4 : decode cJx4a65c_grow_92f84 4 = .ok (.arraylength, 1) := by decide +kernel
theorem dJx4a65c_grow_92f84_5 : decode cJx4a65c_grow_92f84 5 = .ok (.istore_n 2, 1) := by decide +kernel
theorem dJx4a65c_grow_92f84_6 : decode cJx4a65c_grow_92f84 6 = .ok (.iload_n 2, 1) := by decide +kernel
theorem dJx4a65c_grow_92f84_7 : decode cJx4a65c_grow_92f84 7 = .ok (.ifCond .gt 13, 3) := by decide +kernel
theorem dJx4a65c_grow_92f84_10 : decode cJx4a65c_grow_92f84 10 = .ok (.aload_n 0, 1) := by decide +kernel
theorem dJx4a65c_grow_92f84_11 : decode cJx4a65c_grow_92f84 11 = .ok (.getfield 9, 3) := by decide +kernel
theorem dJx4a65c_grow_92f84_14 : decode cJx4a65c_grow_92f84 14 = .ok (.getstatic 39, 3) := by decide +kernel
theorem dJx4a65c_grow_92f84_17 : decode cJx4a65c_grow_92f84 17 = .ok (.if_acmp .eq 28, 3) := by decide +kernel
theorem dJx4a65c_grow_92f84_20 : decode cJx4a65c_grow_92f84 20 = .ok (.iload_n 2, 1) := by decide +kernel
theorem dJx4a65c_grow_92f84_21 : decode cJx4a65c_grow_92f84 21 = .ok (.iload_n 1, 1) := by decide +kernel
theorem dJx4a65c_grow_92f84_22 : decode cJx4a65c_grow_92f84 22 = .ok (.iload_n 2, 1) := by decide +kernel
theorem dJx4a65c_grow_92f84_23 : decode cJx4a65c_grow_92f84 23 = .ok (.isub, 1) := by decide +kernel
theorem dJx4a65c_grow_92f84_24 : decode cJx4a65c_grow_92f84 24 = .ok (.iload_n 2, 1) := by decide +kernel
theorem dJx4a65c_grow_92f84_25 : decode cJx4a65c_grow_92f84 25 = .ok (.iconst 1, 1) := by decide +kernel
theorem dJx4a65c_grow_92f84_26 : decode cJx4a65c_grow_92f84 26 = .ok (.ishr, 1) := by decide +kernel
theorem dJx4a65c_grow_92f84_27 : decode cJx4a65c_grow_92f84 27 = .ok (.invokestatic 73, 3) := by decide +kernel
theorem dJx4a65c_grow_92f84_30 : decode cJx4a65c_grow_92f84 30 = .ok (.istore_n 3, 1) := by decide +kernel
theorem dJx4a65c_grow_92f84_31 : decode cJx4a65c_grow_92f84 31 = .ok (.aload_n 0, 1) := by decide +kernel
theorem dJx4a65c_grow_92f84_32 : decode cJx4a65c_grow_92f84 32 = .ok (.aload_n 0, 1) := by decide +kernel
theorem dJx4a65c_grow_92f84_33 : decode cJx4a65c_grow_92f84 33 = .ok (.getfield 9, 3) := by decide +kernel
theorem dJx4a65c_grow_92f84_36 : decode cJx4a65c_grow_92f84 36 = .ok (.iload_n 3, 1) := by decide +kernel
theorem dJx4a65c_grow_92f84_37 : decode cJx4a65c_grow_92f84 37 = .ok (.invokestatic 66, 3) := by decide +kernel
theorem dJx4a65c_grow_92f84_40 : decode cJx4a65c_grow_92f84 40 = .ok (.dup_x1, 1) := by decide +kernel
theorem dJx4a65c_grow_92f84_41 : decode cJx4a65c_grow_92f84 41 = .ok (.putfield 9, 3) := by decide +kernel
theorem dJx4a65c_grow_92f84_44 : decode cJx4a65c_grow_92f84 44 = .ok (.areturn, 1) := by decide +kernel
theorem dJx4a65c_grow_92f84_45 : decode cJx4a65c_grow_92f84 45 = .ok (.aload_n 0, 1) := by decide +kernel
theorem dJx4a65c_grow_92f84_46 : decode cJx4a65c_grow_92f84 46 = .ok (.bipush 10, 2) := by decide +kernel
theorem dJx4a65c_grow_92f84_48 : decode cJx4a65c_grow_92f84 48 = .ok (.iload_n 1, 1) := by decide +kernel
theorem dJx4a65c_grow_92f84_49 : decode cJx4a65c_grow_92f84 49 = .ok (.invokestatic 79, 3) := by decide +kernel
theorem dJx4a65c_grow_92f84_52 : decode cJx4a65c_grow_92f84 52 = .ok (.anewarray 7, 3) := by decide +kernel
theorem dJx4a65c_grow_92f84_55 : decode cJx4a65c_grow_92f84 55 = .ok (.dup_x1, 1) := by decide +kernel
theorem dJx4a65c_grow_92f84_56 : decode cJx4a65c_grow_92f84 56 = .ok (.putfield 9, 3) := by decide +kernel
theorem dJx4a65c_grow_92f84_59 : decode cJx4a65c_grow_92f84 59 = .ok (.areturn, 1) := by decide +kernel
theorem dJx4a65c_grow_d5877_0 : decode cJx4a65c_grow_d5877 0 = .ok (.aload_n 0, 1) := by decide +kernel
theorem dJx4a65c_grow_d5877_1 : decode cJx4a65c_grow_d5877 1 = .ok (.aload_n 0, 1) := by decide +kernel
theorem dJx4a65c_grow_d5877_2 : decode cJx4a65c_grow_d5877 2 = .ok (.getfield 48, 3) := by decide +kernel
theorem dJx4a65c_grow_d5877_5 : decode cJx4a65c_grow_d5877 5 = .ok (.iconst 1, 1) := by decide +kernel
theorem dJx4a65c_grow_d5877_6 : decode cJx4a65c_grow_d5877 6 = .ok (.iadd, 1) := by decide +kernel
theorem dJx4a65c_grow_d5877_7 : decode cJx4a65c_grow_d5877 7 = .ok (.invokevirtual 69, 3) := by decide +kernel
theorem dJx4a65c_grow_d5877_10 : decode cJx4a65c_grow_d5877 10 = .ok (.areturn, 1) := by decide +kernel
theorem dJx4a65c_size_8abf5_0 : decode cJx4a65c_size_8abf5 0 = .ok (.aload_n 0, 1) := by decide +kernel
theorem dJx4a65c_size_8abf5_1 : decode cJx4a65c_size_8abf5 1 = .ok (.getfield 48, 3) := by decide +kernel
theorem dJx4a65c_size_8abf5_4 : decode cJx4a65c_size_8abf5 4 = .ok (.ireturn, 1) := by decide +kernel
theorem dJx4a65c_elementData_915e3_0 : decode cJx4a65c_elementData_915e3 0 = .ok (.aload_n 0, 1) := by decide +kernel
theorem dJx4a65c_elementData_915e3_1 : decode cJx4a65c_elementData_915e3 1 = .ok (.getfield 9, 3) := by decide +kernel
theorem dJx4a65c_elementData_915e3_4 : decode cJx4a65c_elementData_915e3 4 = .ok (.iload_n 1, 1) := by decide +kernel
theorem dJx4a65c_elementData_915e3_5 : decode cJx4a65c_elementData_915e3 5 = .ok (.aaload, 1) := by decide +kernel
theorem dJx4a65c_elementData_915e3_6 : decode cJx4a65c_elementData_915e3 6 = .ok (.areturn, 1) := by decide +kernel
theorem dJx4a65c_get_915e3_0 : decode cJx4a65c_get_915e3 0 = .ok (.iload_n 1, 1) := by decide +kernel
theorem dJx4a65c_get_915e3_1 : decode cJx4a65c_get_915e3 1 = .ok (.aload_n 0, 1) := by decide +kernel
theorem dJx4a65c_get_915e3_2 : decode cJx4a65c_get_915e3 2 = .ok (.getfield 48, 3) := by decide +kernel
theorem dJx4a65c_get_915e3_5 : decode cJx4a65c_get_915e3 5 = .ok (.invokestatic 118, 3) := by decide +kernel
theorem dJx4a65c_get_915e3_8 : decode cJx4a65c_get_915e3 8 = .ok (.pop, 1) := by decide +kernel
theorem dJx4a65c_get_915e3_9 : decode cJx4a65c_get_915e3 9 = .ok (.aload_n 0, 1) := by decide +kernel
theorem dJx4a65c_get_915e3_10 : decode cJx4a65c_get_915e3 10 = .ok (.iload_n 1, 1) := by decide +kernel
theorem dJx4a65c_get_915e3_11 : decode cJx4a65c_get_915e3 11 = .ok (.invokevirtual 123, 3) := by decide +kernel
theorem dJx4a65c_get_915e3_14 : decode cJx4a65c_get_915e3 14 = .ok (.areturn, 1) := by decide +kernel
theorem dJx4a65c_add_72be8_0 : decode cJx4a65c_add_72be8 0 = .ok (.iload_n 3, 1) := by decide +kernel
theorem dJx4a65c_add_72be8_1 : decode cJx4a65c_add_72be8 1 = .ok (.aload_n 2, 1) := by decide +kernel
theorem dJx4a65c_add_72be8_2 : decode cJx4a65c_add_72be8 2 = .ok (.arraylength, 1) := by decide +kernel
theorem dJx4a65c_add_72be8_3 : decode cJx4a65c_add_72be8 3 = .ok (.if_icmp .ne 8, 3) := by decide +kernel
theorem dJx4a65c_add_72be8_6 : decode cJx4a65c_add_72be8 6 = .ok (.aload_n 0, 1) := by decide +kernel
theorem dJx4a65c_add_72be8_7 : decode cJx4a65c_add_72be8 7 = .ok (.invokevirtual 129, 3) := by decide +kernel
theorem dJx4a65c_add_72be8_10 : decode cJx4a65c_add_72be8 10 = .ok (.astore_n 2, 1) := by decide +kernel
theorem dJx4a65c_add_72be8_11 : decode cJx4a65c_add_72be8 11 = .ok (.aload_n 2, 1) := by decide +kernel
theorem dJx4a65c_add_72be8_12 : decode cJx4a65c_add_72be8 12 = .ok (.iload_n 3, 1) := by decide +kernel
theorem dJx4a65c_add_72be8_13 : decode cJx4a65c_add_72be8 13 = .ok (.aload_n 1, 1) := by decide +kernel
theorem dJx4a65c_add_72be8_14 : decode cJx4a65c_add_72be8 14 = .ok (.aastore, 1) := by decide +kernel
theorem dJx4a65c_add_72be8_15 : decode cJx4a65c_add_72be8 15 = .ok (.aload_n 0, 1) := by decide +kernel
theorem dJx4a65c_add_72be8_16 : decode cJx4a65c_add_72be8 16 = .ok (.iload_n 3, 1) := by decide +kernel
theorem dJx4a65c_add_72be8_17 : decode cJx4a65c_add_72be8 17 = .ok (.iconst 1, 1) := by decide +kernel
theorem dJx4a65c_add_72be8_18 : decode cJx4a65c_add_72be8 18 = .ok (.iadd, 1) := by decide +kernel
theorem dJx4a65c_add_72be8_19 : decode cJx4a65c_add_72be8 19 = .ok (.putfield 48, 3) := by decide +kernel
theorem dJx4a65c_add_72be8_22 : decode cJx4a65c_add_72be8 22 = .ok (.return_, 1) := by decide +kernel
theorem dJx4a65c_add_9ea2d_0 : decode cJx4a65c_add_9ea2d 0 = .ok (.aload_n 0, 1) := by decide +kernel
theorem dJx4a65c_add_9ea2d_1 : decode cJx4a65c_add_9ea2d 1 = .ok (.dup, 1) := by decide +kernel
theorem dJx4a65c_add_9ea2d_2 : decode cJx4a65c_add_9ea2d 2 = .ok (.getfield 63, 3) := by decide +kernel
theorem dJx4a65c_add_9ea2d_5 : decode cJx4a65c_add_9ea2d 5 = .ok (.iconst 1, 1) := by decide +kernel
theorem dJx4a65c_add_9ea2d_6 : decode cJx4a65c_add_9ea2d 6 = .ok (.iadd, 1) := by decide +kernel
theorem dJx4a65c_add_9ea2d_7 : decode cJx4a65c_add_9ea2d 7 = .ok (.putfield 63, 3) := by decide +kernel
theorem dJx4a65c_add_9ea2d_10 : decode cJx4a65c_add_9ea2d 10 = .ok (.aload_n 0, 1) := by decide +kernel
theorem dJx4a65c_add_9ea2d_11 : decode cJx4a65c_add_9ea2d 11 = .ok (.aload_n 1, 1) := by decide +kernel
theorem dJx4a65c_add_9ea2d_12 : decode cJx4a65c_add_9ea2d 12 = .ok (.aload_n 0, 1) := by decide +kernel
theorem dJx4a65c_add_9ea2d_13 : decode cJx4a65c_add_9ea2d 13 = .ok (.getfield 9, 3) := by decide +kernel
theorem dJx4a65c_add_9ea2d_16 : decode cJx4a65c_add_9ea2d 16 = .ok (.aload_n 0, 1) := by decide +kernel
theorem dJx4a65c_add_9ea2d_17 : decode cJx4a65c_add_9ea2d 17 = .ok (.getfield 48, 3) := by decide +kernel
theorem dJx4a65c_add_9ea2d_20 : decode cJx4a65c_add_9ea2d 20 = .ok (.invokevirtual 131, 3) := by decide +kernel
theorem dJx4a65c_add_9ea2d_23 : decode cJx4a65c_add_9ea2d 23 = .ok (.iconst 1, 1) := by decide +kernel
theorem dJx4a65c_add_9ea2d_24 : decode cJx4a65c_add_9ea2d 24 = .ok (.ireturn, 1) := by decide +kernel
theorem dJx4a65c_remove_915e3_0 : decode cJx4a65c_remove_915e3 0 = .ok (.iload_n 1, 1) := by decide +kernel
theorem dJx4a65c_remove_915e3_1 : decode cJx4a65c_remove_915e3 1 = .ok (.aload_n 0, 1) := by decide +kernel
theorem dJx4a65c_remove_915e3_2 : decode cJx4a65c_remove_915e3 2 = .ok (.getfield 48, 3) := by decide +kernel
theorem dJx4a65c_remove_915e3_5 : decode cJx4a65c_remove_915e3 5 = .ok (.invokestatic 118, 3) := by decide +kernel
theorem dJx4a65c_remove_915e3_8 : decode cJx4a65c_remove_915e3 8 = .ok (.pop, 1) := by decide +kernel
theorem dJx4a65c_remove_915e3_9 : decode cJx4a65c_remove_915e3 9 = .ok (.aload_n 0, 1) := by decide +kernel
theorem dJx4a65c_remove_915e3_10 : decode cJx4a65c_remove_915e3 10 = .ok (.getfield 9, 3) := by decide +kernel
theorem dJx4a65c_remove_915e3_13 : decode cJx4a65c_remove_915e3 13 = .ok (.astore_n 2, 1) := by decide +kernel
theorem dJx4a65c_remove_915e3_14 : decode cJx4a65c_remove_915e3 14 = .ok (.aload_n 2, 1) := by decide +kernel
theorem dJx4a65c_remove_915e3_15 : decode cJx4a65c_remove_915e3 15 = .ok (.iload_n 1, 1) := by decide +kernel
theorem dJx4a65c_remove_915e3_16 : decode cJx4a65c_remove_915e3 16 = .ok (.aaload, 1) := by decide +kernel
theorem dJx4a65c_remove_915e3_17 : decode cJx4a65c_remove_915e3 17 = .ok (.astore_n 3, 1) := by decide +kernel
theorem dJx4a65c_remove_915e3_18 : decode cJx4a65c_remove_915e3 18 = .ok (.aload_n 0, 1) := by decide +kernel
theorem dJx4a65c_remove_915e3_19 : decode cJx4a65c_remove_915e3 19 = .ok (.aload_n 2, 1) := by decide +kernel
theorem dJx4a65c_remove_915e3_20 : decode cJx4a65c_remove_915e3 20 = .ok (.iload_n 1, 1) := by decide +kernel
theorem dJx4a65c_remove_915e3_21 : decode cJx4a65c_remove_915e3 21 = .ok (.invokevirtual 144, 3) := by decide +kernel
theorem dJx4a65c_remove_915e3_24 : decode cJx4a65c_remove_915e3 24 = .ok (.aload_n 3, 1) := by decide +kernel
theorem dJx4a65c_remove_915e3_25 : decode cJx4a65c_remove_915e3 25 = .ok (.areturn, 1) := by decide +kernel
theorem dJx4a65c_fastRemove_b59b0_0 : decode cJx4a65c_fastRemove_b59b0 0 = .ok (.aload_n 0, 1) := by decide +kernel
theorem dJx4a65c_fastRemove_b59b0_1 : decode cJx4a65c_fastRemove_b59b0 1 = .ok (.dup, 1) := by decide +kernel
theorem dJx4a65c_fastRemove_b59b0_2 : decode cJx4a65c_fastRemove_b59b0 2 = .ok (.getfield 63, 3) := by decide +kernel
theorem dJx4a65c_fastRemove_b59b0_5 : decode cJx4a65c_fastRemove_b59b0 5 = .ok (.iconst 1, 1) := by decide +kernel
theorem dJx4a65c_fastRemove_b59b0_6 : decode cJx4a65c_fastRemove_b59b0 6 = .ok (.iadd, 1) := by decide +kernel
theorem dJx4a65c_fastRemove_b59b0_7 : decode cJx4a65c_fastRemove_b59b0 7 = .ok (.putfield 63, 3) := by decide +kernel
theorem dJx4a65c_fastRemove_b59b0_10 : decode cJx4a65c_fastRemove_b59b0 10 = .ok (.aload_n 0, 1) := by decide +kernel
theorem dJx4a65c_fastRemove_b59b0_11 : decode cJx4a65c_fastRemove_b59b0 11 = .ok (.getfield 48, 3) := by decide +kernel
theorem dJx4a65c_fastRemove_b59b0_14 : decode cJx4a65c_fastRemove_b59b0 14 = .ok (.iconst 1, 1) := by decide +kernel
theorem dJx4a65c_fastRemove_b59b0_15 : decode cJx4a65c_fastRemove_b59b0 15 = .ok (.isub, 1) := by decide +kernel
theorem dJx4a65c_fastRemove_b59b0_16 : decode cJx4a65c_fastRemove_b59b0 16 = .ok (.dup, 1) := by decide +kernel
theorem dJx4a65c_fastRemove_b59b0_17 : decode cJx4a65c_fastRemove_b59b0 17 = .ok (.istore_n 3, 1) := by decide +kernel
theorem dJx4a65c_fastRemove_b59b0_18 : decode cJx4a65c_fastRemove_b59b0 18 = .ok (.iload_n 2, 1) := by decide +kernel
theorem dJx4a65c_fastRemove_b59b0_19 : decode cJx4a65c_fastRemove_b59b0 19 = .ok (.if_icmp .le 15, 3) := by decide +kernel
theorem dJx4a65c_fastRemove_b59b0_22 : decode cJx4a65c_fastRemove_b59b0 22 = .ok (.aload_n 1, 1) := by decide +kernel
theorem dJx4a65c_fastRemove_b59b0_23 : decode cJx4a65c_fastRemove_b59b0 23 = .ok (.iload_n 2, 1) := by decide +kernel
theorem dJx4a65c_fastRemove_b59b0_24 : decode cJx4a65c_fastRemove_b59b0 24 = .ok (.iconst 1, 1) := by decide +kernel
theorem dJx4a65c_fastRemove_b59b0_25 : decode cJx4a65c_fastRemove_b59b0 25 = .ok (.iadd, 1) := by decide +kernel
theorem dJx4a65c_fastRemove_b59b0_26 : decode cJx4a65c_fastRemove_b59b0 26 = .ok (.aload_n 1, 1) := by decide +kernel
theorem dJx4a65c_fastRemove_b59b0_27 : decode cJx4a65c_fastRemove_b59b0 27 = .ok (.iload_n 2, 1) := by decide +kernel
theorem dJx4a65c_fastRemove_b59b0_28 : decode cJx4a65c_fastRemove_b59b0 28 = .ok (.iload_n 3, 1) := by decide +kernel
theorem dJx4a65c_fastRemove_b59b0_29 : decode cJx4a65c_fastRemove_b59b0 29 = .ok (.iload_n 2, 1) := by decide +kernel
theorem dJx4a65c_fastRemove_b59b0_30 : decode cJx4a65c_fastRemove_b59b0 30 = .ok (.isub, 1) := by decide +kernel
theorem dJx4a65c_fastRemove_b59b0_31 : decode cJx4a65c_fastRemove_b59b0 31 = .ok (.invokestatic 112, 3) := by decide +kernel
theorem dJx4a65c_fastRemove_b59b0_34 : decode cJx4a65c_fastRemove_b59b0 34 = .ok (.aload_n 1, 1) := by decide +kernel
theorem dJx4a65c_fastRemove_b59b0_35 : decode cJx4a65c_fastRemove_b59b0 35 = .ok (.aload_n 0, 1) := by decide +kernel
theorem dJx4a65c_fastRemove_b59b0_36 : decode cJx4a65c_fastRemove_b59b0 36 = .ok (.iload_n 3, 1) := by decide +kernel
theorem dJx4a65c_fastRemove_b59b0_37 : decode cJx4a65c_fastRemove_b59b0 37 = .ok (.dup_x1, 1) := by decide +kernel
theorem dJx4a65c_fastRemove_b59b0_38 : decode cJx4a65c_fastRemove_b59b0 38 = .ok (.putfield 48, 3) := by decide +kernel
theorem dJx4a65c_fastRemove_b59b0_41 : decode cJx4a65c_fastRemove_b59b0 41 = .ok (.aconst_null, 1) := by decide +kernel
theorem dJx4a65c_fastRemove_b59b0_42 : decode cJx4a65c_fastRemove_b59b0 42 = .ok (.aastore, 1) := by decide +kernel
theorem dJx4a65c_fastRemove_b59b0_43 : decode cJx4a65c_fastRemove_b59b0 43 = .ok (.return_, 1) := by decide +kernel
theorem dJx4a65c_clear_da8c8_0 : decode cJx4a65c_clear_da8c8 0 = .ok (.aload_n 0, 1) := by decide +kernel
theorem dJx4a65c_clear_da8c8_1 : decode cJx4a65c_clear_da8c8 1 = .ok (.dup, 1) := by decide +kernel
theorem dJx4a65c_clear_da8c8_2 : decode cJx4a65c_clear_da8c8 2 = .ok (.getfield 63, 3) := by decide +kernel
theorem dJx4a65c_clear_da8c8_5 : decode cJx4a65c_clear_da8c8 5 = .ok (.iconst 1, 1) := by decide +kernel
theorem dJx4a65c_clear_da8c8_6 : decode cJx4a65c_clear_da8c8 6 = .ok (.iadd, 1) := by decide +kernel
theorem dJx4a65c_clear_da8c8_7 : decode cJx4a65c_clear_da8c8 7 = .ok (.putfield 63, 3) := by decide +kernel
theorem dJx4a65c_clear_da8c8_10 : decode cJx4a65c_clear_da8c8 10 = .ok (.aload_n 0, 1) := by decide +kernel
theorem dJx4a65c_clear_da8c8_11 : decode cJx4a65c_clear_da8c8 11 = .ok (.getfield 9, 3) := by decide +kernel
theorem dJx4a65c_clear_da8c8_14 : decode cJx4a65c_clear_da8c8 14 = .ok (.astore_n 1, 1) := by decide +kernel
theorem dJx4a65c_clear_da8c8_15 : decode cJx4a65c_clear_da8c8 15 = .ok (.aload_n 0, 1) := by decide +kernel
theorem dJx4a65c_clear_da8c8_16 : decode cJx4a65c_clear_da8c8 16 = .ok (.getfield 48, 3) := by decide +kernel
theorem dJx4a65c_clear_da8c8_19 : decode cJx4a65c_clear_da8c8 19 = .ok (.istore_n 2, 1) := by decide +kernel
theorem dJx4a65c_clear_da8c8_20 : decode cJx4a65c_clear_da8c8 20 = .ok (.aload_n 0, 1) := by decide +kernel
theorem dJx4a65c_clear_da8c8_21 : decode cJx4a65c_clear_da8c8 21 = .ok (.iconst 0, 1) := by decide +kernel
theorem dJx4a65c_clear_da8c8_22 : decode cJx4a65c_clear_da8c8 22 = .ok (.dup_x1, 1) := by decide +kernel
theorem dJx4a65c_clear_da8c8_23 : decode cJx4a65c_clear_da8c8 23 = .ok (.putfield 48, 3) := by decide +kernel
theorem dJx4a65c_clear_da8c8_26 : decode cJx4a65c_clear_da8c8 26 = .ok (.istore_n 3, 1) := by decide +kernel
theorem dJx4a65c_clear_da8c8_27 : decode cJx4a65c_clear_da8c8 27 = .ok (.iload_n 3, 1) := by decide +kernel
theorem dJx4a65c_clear_da8c8_28 : decode cJx4a65c_clear_da8c8 28 = .ok (.iload_n 2, 1) := by decide +kernel
theorem dJx4a65c_clear_da8c8_29 : decode cJx4a65c_clear_da8c8 29 = .ok (.if_icmp .ge 13, 3) := by decide +kernel
theorem dJx4a65c_clear_da8c8_32 : decode cJx4a65c_clear_da8c8 32 = .ok (.aload_n 1, 1) := by decide +kernel
theorem dJx4a65c_clear_da8c8_33 : decode cJx4a65c_clear_da8c8 33 = .ok (.iload_n 3, 1) := by decide +kernel
theorem dJx4a65c_clear_da8c8_34 : decode cJx4a65c_clear_da8c8 34 = .ok (.aconst_null, 1) := by decide +kernel
theorem dJx4a65c_clear_da8c8_35 : decode cJx4a65c_clear_da8c8 35 = .ok (.aastore, 1) := by decide +kernel
theorem dJx4a65c_clear_da8c8_36 : decode cJx4a65c_clear_da8c8 36 = .ok (.iinc 3 1, 3) := by decide +kernel
theorem dJx4a65c_clear_da8c8_39 : decode cJx4a65c_clear_da8c8 39 = .ok (.goto (-12), 3) := by decide +kernel
theorem dJx4a65c_clear_da8c8_42 : decode cJx4a65c_clear_da8c8 42 = .ok (.return_, 1) := by decide +kernel
theorem dJ7_copyOf_1904c_0 : decode cJ7_copyOf_1904c 0 = .ok (.aload_n 0, 1) := by decide +kernel
theorem dJ7_copyOf_1904c_1 : decode cJ7_copyOf_1904c 1 = .ok (.iload_n 1, 1) := by decide +kernel
theorem dJ7_copyOf_1904c_2 : decode cJ7_copyOf_1904c 2 = .ok (.aload_n 0, 1) := by decide +kernel
theorem dJ7_copyOf_1904c_3 : decode cJ7_copyOf_1904c 3 = .ok (.invokevirtual 86, 3) := by decide +kernel
theorem dJ7_copyOf_1904c_6 : decode cJ7_copyOf_1904c 6 = .ok (.invokestatic 300, 3) := by decide +kernel
theorem dJ7_copyOf_1904c_9 : decode cJ7_copyOf_1904c 9 = .ok (.areturn, 1) := by decide +kernel
theorem dJ7_copyOf_6403c_0 : decode cJ7_copyOf_6403c 0 = .ok (.aload_n 2, 1) := by decide +kernel
theorem dJ7_copyOf_6403c_1 : decode cJ7_copyOf_6403c 1 = .ok (.ldc 110, 2) := by decide +kernel
theorem dJ7_copyOf_6403c_3 : decode cJ7_copyOf_6403c 3 = .ok (.if_acmp .ne 10, 3) := by decide +kernel
theorem dJ7_copyOf_6403c_6 : decode cJ7_copyOf_6403c 6 = .ok (.iload_n 1, 1) := by decide +kernel
theorem dJ7_copyOf_6403c_7 : decode cJ7_copyOf_6403c 7 = .ok (.anewarray 2, 3) := by decide +kernel
theorem dJ7_copyOf_6403c_10 : decode cJ7_copyOf_6403c 10 = .ok (.goto 14, 3) := by decide +kernel
theorem dJ7_copyOf_6403c_13 : decode cJ7_copyOf_6403c 13 = .ok (.aload_n 2, 1) := by decide +kernel
theorem dJ7_copyOf_6403c_14 : decode cJ7_copyOf_6403c 14 = .ok (.invokevirtual 90, 3) := by decide +kernel
theorem dJ7_copyOf_6403c_17 : decode cJ7_copyOf_6403c 17 = .ok (.iload_n 1, 1) := by decide +kernel
theorem dJ7_copyOf_6403c_18 : decode cJ7_copyOf_6403c 18 = .ok (.invokestatic 95, 3) := by decide +kernel
theorem dJ7_copyOf_6403c_21 : decode cJ7_copyOf_6403c 21 = .ok (.checkcast 110, 3) := by decide +kernel
theorem dJ7_copyOf_6403c_24 : decode cJ7_copyOf_6403c 24 = .ok (.astore_n 3, 1) := by decide +kernel
theorem dJ7_copyOf_6403c_25 : decode cJ7_copyOf_6403c 25 = .ok (.aload_n 0, 1) := by decide +kernel
theorem dJ7_copyOf_6403c_26 : decode cJ7_copyOf_6403c 26 = .ok (.iconst 0, 1) := by decide +kernel
theorem dJ7_copyOf_6403c_27 : decode cJ7_copyOf_6403c 27 = .ok (.aload_n 3, 1) := by decide +kernel
theorem dJ7_copyOf_6403c_28 : decode cJ7_copyOf_6403c 28 = .ok (.iconst 0, 1) := by decide +kernel
theorem dJ7_copyOf_6403c_29 : decode cJ7_copyOf_6403c 29 = .ok (.aload_n 0, 1) := by decide +kernel
theorem dJ7_copyOf_6403c_30 : decode cJ7_copyOf_6403c 30 = .ok (.arraylength, 1) := by decide +kernel
theorem dJ7_copyOf_6403c_31 : decode cJ7_copyOf_6403c 31 = .ok (.iload_n 1, 1) := by decide +kernel
theorem dJ7_copyOf_6403c_32 : decode cJ7_copyOf_6403c 32 = .ok (.invokestatic 304, 3) := by decide +kernel
theorem dJ7_copyOf_6403c_35 : decode cJ7_copyOf_6403c 35 = .ok (.invokestatic 150, 3) := by decide +kernel
theorem dJ7_copyOf_6403c_38 : decode cJ7_copyOf_6403c 38 = .ok (.aload_n 3, 1) := by decide +kernel
theorem dJ7_copyOf_6403c_39 : decode cJ7_copyOf_6403c 39 = .ok (.areturn, 1) := by decide +kernel
theorem dJ15_checkIndex_7cf53_0 : decode cJ15_checkIndex_7cf53 0 = .ok (.iload_n 0, 1) := by decide +kernel
theorem dJ15_checkIndex_7cf53_1 : decode cJ15_checkIndex_7cf53 1 = .ok (.iload_n 1, 1) := by decide +kernel
theorem dJ15_checkIndex_7cf53_2 : decode cJ15_checkIndex_7cf53 2 = .ok (.aconst_null, 1) := by decide +kernel
theorem dJ15_checkIndex_7cf53_3 : decode cJ15_checkIndex_7cf53 3 = .ok (.invokestatic 105, 3) := by decide +kernel
theorem dJ15_checkIndex_7cf53_6 : decode cJ15_checkIndex_7cf53 6 = .ok (.ireturn, 1) := by decide +kernel
theorem dJ8_newLength_cabcc_0 : decode cJ8_newLength_cabcc 0 = .ok (.iload_n 0, 1) := by decide +kernel
theorem dJ8_newLength_cabcc_1 : decode cJ8_newLength_cabcc 1 = .ok (.iload_n 1, 1) := by decide +kernel
theorem dJ8_newLength_cabcc_2 : decode cJ8_newLength_cabcc 2 = .ok (.iload_n 2, 1) := by decide +kernel
theorem dJ8_newLength_cabcc_3 : decode cJ8_newLength_cabcc 3 = .ok (.invokestatic 194, 3) := by decide +kernel
theorem dJ8_newLength_cabcc_6 : decode cJ8_newLength_cabcc 6 = .ok (.iadd, 1) := by decide +kernel
theorem dJ8_newLength_cabcc_7 : decode cJ8_newLength_cabcc 7 = .ok (.istore_n 3, 1) := by decide +kernel
theorem dJ8_newLength_cabcc_8 : decode cJ8_newLength_cabcc 8 = .ok (.iconst 0, 1) := by decide +kernel
theorem dJ8_newLength_cabcc_9 : decode cJ8_newLength_cabcc 9 = .ok (.iload_n 3, 1) := by decide +kernel
theorem dJ8_newLength_cabcc_10 : decode cJ8_newLength_cabcc 10 = .ok (.if_icmp .ge 11, 3) := by decide +kernel
theorem dJ8_newLength_cabcc_13 : decode cJ8_newLength_cabcc 13 = .ok (.iload_n 3, 1) := by decide +kernel
theorem dJ8_newLength_cabcc_14 : decode cJ8_newLength_cabcc 14 = .ok (.ldc 200, 2) := by decide +kernel
theorem dJ8_newLength_cabcc_16 : decode cJ8_newLength_cabcc 16 = .ok (.if_icmp .gt 5, 3) := by decide +kernel
theorem dJ8_newLength_cabcc_19 : decode cJ8_newLength_cabcc 19 = .ok (.iload_n 3, 1) := by decide +kernel
theorem dJ8_newLength_cabcc_20 : decode cJ8_newLength_cabcc 20 = .ok (.ireturn, 1) := by decide +kernel
theorem dJ8_newLength_cabcc_21 : decode cJ8_newLength_cabcc 21 = .ok (.iload_n 0, 1) := by decide +kernel
theorem dJ8_newLength_cabcc_22 : decode cJ8_newLength_cabcc 22 = .ok (.iload_n 1, 1) := by decide +kernel
theorem dJ8_newLength_cabcc_23 : decode cJ8_newLength_cabcc 23 = .ok (.invokestatic 201, 3) := by decide +kernel
theorem dJ8_newLength_cabcc_26 : decode cJ8_newLength_cabcc 26 = .ok (.ireturn, 1) := by decide +kernel
theorem dJ8_hugeLength_7cf53_0 : decode cJ8_hugeLength_7cf53 0 = .ok (.iload_n 0, 1) := by decide +kernel
theorem dJ8_hugeLength_7cf53_1 : decode cJ8_hugeLength_7cf53 1 = .ok (.iload_n 1, 1) := by decide +kernel
theorem dJ8_hugeLength_7cf53_2 : decode cJ8_hugeLength_7cf53 2 = .ok (.iadd, 1) := by decide +kernel
theorem dJ8_hugeLength_7cf53_3 : decode cJ8_hugeLength_7cf53 3 = .ok (.istore_n 2, 1) := by decide +kernel
theorem dJ8_hugeLength_7cf53_4 : decode cJ8_hugeLength_7cf53 4 = .ok (.iload_n 2, 1) := by decide +kernel
theorem dJ8_hugeLength_7cf53_5 : decode cJ8_hugeLength_7cf53 5 = .ok (.ifCond .ge 44, 3) := by decide +kernel
theorem dJ8_hugeLength_7cf53_8 : decode cJ8_hugeLength_7cf53 8 = .ok (.new 204, 3) := by decide +kernel
theorem dJ8_hugeLength_7cf53_11 : decode cJ8_hugeLength_7cf53 11 = .ok (.dup, 1) := by decide +kernel
theorem dJ8_hugeLength_7cf53_12 : decode cJ8_hugeLength_7cf53 12 = .ok (.new 89, 3) := by decide +kernel
theorem dJ8_hugeLength_7cf53_15 : decode cJ8_hugeLength_7cf53 15 = .ok (.dup, 1) := by decide +kernel
theorem dJ8_hugeLength_7cf53_16 : decode cJ8_hugeLength_7cf53 16 = .ok (.invokespecial 91, 3) := by decide +kernel
theorem dJ8_hugeLength_7cf53_19 : decode cJ8_hugeLength_7cf53 19 = .ok (.ldc 206, 2) := by decide +kernel
theorem dJ8_hugeLength_7cf53_21 : decode cJ8_hugeLength_7cf53 21 = .ok (.invokevirtual 94, 3) := by decide +kernel
theorem dJ8_hugeLength_7cf53_24 : decode cJ8_hugeLength_7cf53 24 = .ok (.iload_n 0, 1) := by decide +kernel
theorem dJ8_hugeLength_7cf53_25 : decode cJ8_hugeLength_7cf53 25 = .ok (.invokevirtual 98, 3) := by decide +kernel
theorem dJ8_hugeLength_7cf53_28 : decode cJ8_hugeLength_7cf53 28 = .ok (.ldc 208, 2) := by decide +kernel
theorem dJ8_hugeLength_7cf53_30 : decode cJ8_hugeLength_7cf53 30 = .ok (.invokevirtual 94, 3) := by decide +kernel
theorem dJ8_hugeLength_7cf53_33 : decode cJ8_hugeLength_7cf53 33 = .ok (.iload_n 1, 1) := by decide +kernel
theorem dJ8_hugeLength_7cf53_34 : decode cJ8_hugeLength_7cf53 34 = .ok (.invokevirtual 98, 3) := by decide +kernel
theorem dJ8_hugeLength_7cf53_37 : decode cJ8_hugeLength_7cf53 37 = .ok (.ldc 210, 2) := by decide +kernel
theorem dJ8_hugeLength_7cf53_39 : decode cJ8_hugeLength_7cf53 39 = .ok (.invokevirtual 94, 3) := by decide +kernel
theorem dJ8_hugeLength_7cf53_42 : decode cJ8_hugeLength_7cf53 42 = .ok (.invokevirtual 101, 3) := by decide +kernel
theorem dJ8_hugeLength_7cf53_45 : decode cJ8_hugeLength_7cf53 45 = .ok (.invokespecial 212, 3) := by decide +kernel
theorem dJ8_hugeLength_7cf53_48 : decode cJ8_hugeLength_7cf53 48 = .ok (.athrow, 1) := by decide +kernel
theorem dJ8_hugeLength_7cf53_49 : decode cJ8_hugeLength_7cf53 49 = .ok (.iload_n 2, 1) := by decide +kernel
theorem dJ8_hugeLength_7cf53_50 : decode cJ8_hugeLength_7cf53 50 = .ok (.ldc 200, 2) := by decide +kernel
theorem dJ8_hugeLength_7cf53_52 : decode cJ8_hugeLength_7cf53 52 = .ok (.if_icmp .gt 6, 3) := by decide +kernel
theorem dJ8_hugeLength_7cf53_55 : decode cJ8_hugeLength_7cf53 55 = .ok (.ldc 200, 2) := by decide +kernel
theorem dJ8_hugeLength_7cf53_57 : decode cJ8_hugeLength_7cf53 57 = .ok (.ireturn, 1) := by decide +kernel
theorem dJ8_hugeLength_7cf53_58 : decode cJ8_hugeLength_7cf53 58 = .ok (.iload_n 2, 1) := by decide +kernel
theorem dJ8_hugeLength_7cf53_59 : decode cJ8_hugeLength_7cf53 59 = .ok (.ireturn, 1) := by decide +kernel
theorem dJ3_checkIndex_8e157_0 : decode cJ3_checkIndex_8e157 0 = .ok (.iload_n 0, 1) := by decide +kernel
theorem dJ3_checkIndex_8e157_1 : decode cJ3_checkIndex_8e157 1 = .ok (.ifCond .lt 8, 3) := by decide +kernel
theorem dJ3_checkIndex_8e157_4 : decode cJ3_checkIndex_8e157 4 = .ok (.iload_n 0, 1) := by decide +kernel
theorem dJ3_checkIndex_8e157_5 : decode cJ3_checkIndex_8e157 5 = .ok (.iload_n 1, 1) := by decide +kernel
theorem dJ3_checkIndex_8e157_6 : decode cJ3_checkIndex_8e157 6 = .ok (.if_icmp .lt 10, 3) := by decide +kernel
theorem dJ3_checkIndex_8e157_9 : decode cJ3_checkIndex_8e157 9 = .ok (.aload_n 2, 1) := by decide +kernel
theorem dJ3_checkIndex_8e157_10 : decode cJ3_checkIndex_8e157 10 = .ok (.iload_n 0, 1) := by decide +kernel
theorem dJ3_checkIndex_8e157_11 : decode cJ3_checkIndex_8e157 11 = .ok (.iload_n 1, 1) := by decide +kernel
theorem dJ3_checkIndex_8e157_12 : decode cJ3_checkIndex_8e157 12 = .ok (.invokestatic 95, 3) := by decide +kernel
theorem dJ3_checkIndex_8e157_15 : decode cJ3_checkIndex_8e157 15 = .ok (.athrow, 1) := by decide +kernel
theorem dJ3_checkIndex_8e157_16 : decode cJ3_checkIndex_8e157 16 = .ok (.iload_n 0, 1) := by decide +kernel
theorem dJ3_checkIndex_8e157_17 : decode cJ3_checkIndex_8e157 17 = .ok (.ireturn, 1) := by decide +kernel
theorem dL_cell_0 : decode cL_cell 0 = .ok (.iload_n 1, 1) := by decide +kernel
theorem dL_cell_1 : decode cL_cell 1 = .ok (.aload_n 0, 1) := by decide +kernel
theorem dL_cell_2 : decode cL_cell 2 = .ok (.arraylength, 1) := by decide +kernel
theorem dL_cell_3 : decode cL_cell 3 = .ok (.if_icmp .ge 9, 3) := by decide +kernel
theorem dL_cell_6 : decode cL_cell 6 = .ok (.aload_n 0, 1) := by decide +kernel
theorem dL_cell_7 : decode cL_cell 7 = .ok (.iload_n 1, 1) := by decide +kernel
theorem dL_cell_8 : decode cL_cell 8 = .ok (.iaload, 1) := by decide +kernel
theorem dL_cell_9 : decode cL_cell 9 = .ok (.goto 11, 3) := by decide +kernel
theorem dL_cell_12 : decode cL_cell 12 = .ok (.ldc 7, 2) := by decide +kernel
theorem dL_cell_14 : decode cL_cell 14 = .ok (.iload_n 1, 1) := by decide +kernel
theorem dL_cell_15 : decode cL_cell 15 = .ok (.imul, 1) := by decide +kernel
theorem dL_cell_16 : decode cL_cell 16 = .ok (.sipush 3697, 3) := by decide +kernel
theorem dL_cell_19 : decode cL_cell 19 = .ok (.iadd, 1) := by decide +kernel
theorem dL_cell_20 : decode cL_cell 20 = .ok (.ireturn, 1) := by decide +kernel
theorem dL_low_0 : decode cL_low 0 = .ok (.iload_n 0, 1) := by decide +kernel
theorem dL_low_1 : decode cL_low 1 = .ok (.ldc 8, 2) := by decide +kernel
theorem dL_low_3 : decode cL_low 3 = .ok (.iand, 1) := by decide +kernel
theorem dL_low_4 : decode cL_low 4 = .ok (.iload_n 1, 1) := by decide +kernel
theorem dL_low_5 : decode cL_low 5 = .ok (.irem, 1) := by decide +kernel
theorem dL_low_6 : decode cL_low 6 = .ok (.ireturn, 1) := by decide +kernel
theorem dL_agrees_0 : decode cL_agrees 0 = .ok (.iconst 0, 1) := by decide +kernel
theorem dL_agrees_1 : decode cL_agrees 1 = .ok (.istore_n 2, 1) := by decide +kernel
theorem dL_agrees_2 : decode cL_agrees 2 = .ok (.iconst 0, 1) := by decide +kernel
theorem dL_agrees_3 : decode cL_agrees 3 = .ok (.istore_n 3, 1) := by decide +kernel
theorem dL_agrees_4 : decode cL_agrees 4 = .ok (.aload_n 0, 1) := by decide +kernel
theorem dL_agrees_5 : decode cL_agrees 5 = .ok (.invokevirtual 9, 3) := by decide +kernel
theorem dL_agrees_8 : decode cL_agrees 8 = .ok (.aload_n 1, 1) := by decide +kernel
theorem dL_agrees_9 : decode cL_agrees 9 = .ok (.getfield 15, 3) := by decide +kernel
theorem dL_agrees_12 : decode cL_agrees 12 = .ok (.if_icmp .ne 7, 3) := by decide +kernel
theorem dL_agrees_15 : decode cL_agrees 15 = .ok (.iconst 1, 1) := by decide +kernel
theorem dL_agrees_16 : decode cL_agrees 16 = .ok (.goto 4, 3) := by decide +kernel
theorem dL_agrees_19 : decode cL_agrees 19 = .ok (.iconst 0, 1) := by decide +kernel
theorem dL_agrees_20 : decode cL_agrees 20 = .ok (.istore 4, 2) := by decide +kernel
theorem dL_agrees_22 : decode cL_agrees 22 = .ok (.iconst 0, 1) := by decide +kernel
theorem dL_agrees_23 : decode cL_agrees 23 = .ok (.istore 5, 2) := by decide +kernel
theorem dL_agrees_25 : decode cL_agrees 25 = .ok (.iload 5, 2) := by decide +kernel
theorem dL_agrees_27 : decode cL_agrees 27 = .ok (.aload_n 1, 1) := by decide +kernel
theorem dL_agrees_28 : decode cL_agrees 28 = .ok (.getfield 20, 3) := by decide +kernel
theorem dL_agrees_31 : decode cL_agrees 31 = .ok (.if_icmp .ge 37, 3) := by decide +kernel
theorem dL_agrees_34 : decode cL_agrees 34 = .ok (.iload 4, 2) := by decide +kernel
theorem dL_agrees_36 : decode cL_agrees 36 = .ok (.ifCond .eq 32, 3) := by decide +kernel
theorem dL_agrees_39 : decode cL_agrees 39 = .ok (.aload_n 0, 1) := by decide +kernel
theorem dL_agrees_40 : decode cL_agrees 40 = .ok (.iload 5, 2) := by decide +kernel
theorem dL_agrees_42 : decode cL_agrees 42 = .ok (.invokevirtual 23, 3) := by decide +kernel
theorem dL_agrees_45 : decode cL_agrees 45 = .ok (.aload_n 1, 1) := by decide +kernel
theorem dL_agrees_46 : decode cL_agrees 46 = .ok (.getfield 27, 3) := by decide +kernel
theorem dL_agrees_49 : decode cL_agrees 49 = .ok (.iload 5, 2) := by decide +kernel
theorem dL_agrees_51 : decode cL_agrees 51 = .ok (.caload, 1) := by decide +kernel
theorem dL_agrees_52 : decode cL_agrees 52 = .ok (.if_icmp .ne 7, 3) := by decide +kernel
theorem dL_agrees_55 : decode cL_agrees 55 = .ok (.iconst 1, 1) := by decide +kernel
theorem dL_agrees_56 : decode cL_agrees 56 = .ok (.goto 4, 3) := by decide +kernel
theorem dL_agrees_59 : decode cL_agrees 59 = .ok (.iconst 0, 1) := by decide +kernel
theorem dL_agrees_60 : decode cL_agrees 60 = .ok (.istore 4, 2) := by decide +kernel
theorem dL_agrees_62 : decode cL_agrees 62 = .ok (.iinc 5 1, 3) := by decide +kernel
theorem dL_agrees_65 : decode cL_agrees 65 = .ok (.goto (-40), 3) := by decide +kernel
theorem dL_agrees_68 : decode cL_agrees 68 = .ok (.iconst 0, 1) := by decide +kernel
theorem dL_agrees_69 : decode cL_agrees 69 = .ok (.istore 5, 2) := by decide +kernel
theorem dL_agrees_71 : decode cL_agrees 71 = .ok (.iload 5, 2) := by decide +kernel
theorem dL_agrees_73 : decode cL_agrees 73 = .ok (.aload_n 1, 1) := by decide +kernel
theorem dL_agrees_74 : decode cL_agrees 74 = .ok (.getfield 15, 3) := by decide +kernel
theorem dL_agrees_77 : decode cL_agrees 77 = .ok (.if_icmp .ge 106, 3) := by decide +kernel
theorem dL_agrees_80 : decode cL_agrees 80 = .ok (.iload 4, 2) := by decide +kernel
theorem dL_agrees_82 : decode cL_agrees 82 = .ok (.ifCond .eq 101, 3) := by decide +kernel
theorem dL_agrees_85 : decode cL_agrees 85 = .ok (.aload_n 0, 1) := by decide +kernel
theorem dL_agrees_86 : decode cL_agrees 86 = .ok (.iload 5, 2) := by decide +kernel
theorem dL_agrees_88 : decode cL_agrees 88 = .ok (.invokevirtual 30, 3) := by decide +kernel
theorem dL_agrees_91 : decode cL_agrees 91 = .ok (.aload_n 1, 1) := by decide +kernel
theorem dL_agrees_92 : decode cL_agrees 92 = .ok (.getfield 34, 3) := by decide +kernel
theorem dL_agrees_95 : decode cL_agrees 95 = .ok (.iload 5, 2) := by decide +kernel
theorem dL_agrees_97 : decode cL_agrees 97 = .ok (.aaload, 1) := by decide +kernel
theorem dL_agrees_98 : decode cL_agrees 98 = .ok (.arraylength, 1) := by decide +kernel
theorem dL_agrees_99 : decode cL_agrees 99 = .ok (.if_icmp .ne 7, 3) := by decide +kernel
theorem dL_agrees_102 : decode cL_agrees 102 = .ok (.iconst 1, 1) := by decide +kernel
theorem dL_agrees_103 : decode cL_agrees 103 = .ok (.goto 4, 3) := by decide +kernel
theorem dL_agrees_106 : decode cL_agrees 106 = .ok (.iconst 0, 1) := by decide +kernel
theorem dL_agrees_107 : decode cL_agrees 107 = .ok (.istore 4, 2) := by decide +kernel
theorem dL_agrees_109 : decode cL_agrees 109 = .ok (.iload_n 3, 1) := by decide +kernel
theorem dL_agrees_110 : decode cL_agrees 110 = .ok (.aload_n 1, 1) := by decide +kernel
theorem dL_agrees_111 : decode cL_agrees 111 = .ok (.getfield 34, 3) := by decide +kernel
theorem dL_agrees_114 : decode cL_agrees 114 = .ok (.iload 5, 2) := by decide +kernel
theorem dL_agrees_116 : decode cL_agrees 116 = .ok (.aaload, 1) := by decide +kernel
theorem dL_agrees_117 : decode cL_agrees 117 = .ok (.arraylength, 1) := by decide +kernel
theorem dL_agrees_118 : decode cL_agrees 118 = .ok (.iadd, 1) := by decide +kernel
theorem dL_agrees_119 : decode cL_agrees 119 = .ok (.istore_n 3, 1) := by decide +kernel
theorem dL_agrees_120 : decode cL_agrees 120 = .ok (.aload_n 1, 1) := by decide +kernel
theorem dL_agrees_121 : decode cL_agrees 121 = .ok (.getfield 34, 3) := by decide +kernel
theorem dL_agrees_124 : decode cL_agrees 124 = .ok (.iload 5, 2) := by decide +kernel
theorem dL_agrees_126 : decode cL_agrees 126 = .ok (.aaload, 1) := by decide +kernel
theorem dL_agrees_127 : decode cL_agrees 127 = .ok (.astore 6, 2) := by decide +kernel
theorem dL_agrees_129 : decode cL_agrees 129 = .ok (.aload 6, 2) := by decide +kernel
theorem dL_agrees_131 : decode cL_agrees 131 = .ok (.arraylength, 1) := by decide +kernel
theorem dL_agrees_132 : decode cL_agrees 132 = .ok (.istore 7, 2) := by decide +kernel
theorem dL_agrees_134 : decode cL_agrees 134 = .ok (.iconst 0, 1) := by decide +kernel
theorem dL_agrees_135 : decode cL_agrees 135 = .ok (.istore 8, 2) := by decide +kernel
theorem dL_agrees_137 : decode cL_agrees 137 = .ok (.iload 8, 2) := by decide +kernel
theorem dL_agrees_139 : decode cL_agrees 139 = .ok (.iload 7, 2) := by decide +kernel
theorem dL_agrees_141 : decode cL_agrees 141 = .ok (.if_icmp .ge 36, 3) := by decide +kernel
theorem dL_agrees_144 : decode cL_agrees 144 = .ok (.aload 6, 2) := by decide +kernel
theorem dL_agrees_146 : decode cL_agrees 146 = .ok (.iload 8, 2) := by decide +kernel
theorem dL_agrees_148 : decode cL_agrees 148 = .ok (.iaload, 1) := by decide +kernel
theorem dL_agrees_149 : decode cL_agrees 149 = .ok (.istore 9, 2) := by decide +kernel
theorem dL_agrees_151 : decode cL_agrees 151 = .ok (.iload_n 2, 1) := by decide +kernel
theorem dL_agrees_152 : decode cL_agrees 152 = .ok (.aload_n 1, 1) := by decide +kernel
theorem dL_agrees_153 : decode cL_agrees 153 = .ok (.getfield 27, 3) := by decide +kernel
theorem dL_agrees_156 : decode cL_agrees 156 = .ok (.iload 9, 2) := by decide +kernel
theorem dL_agrees_158 : decode cL_agrees 158 = .ok (.caload, 1) := by decide +kernel
theorem dL_agrees_159 : decode cL_agrees 159 = .ok (.bipush 114, 2) := by decide +kernel
theorem dL_agrees_161 : decode cL_agrees 161 = .ok (.if_icmp .ne 7, 3) := by decide +kernel
theorem dL_agrees_164 : decode cL_agrees 164 = .ok (.iconst 1, 1) := by decide +kernel
theorem dL_agrees_165 : decode cL_agrees 165 = .ok (.goto 4, 3) := by decide +kernel
theorem dL_agrees_168 : decode cL_agrees 168 = .ok (.iconst 0, 1) := by decide +kernel
theorem dL_agrees_169 : decode cL_agrees 169 = .ok (.iadd, 1) := by decide +kernel
theorem dL_agrees_170 : decode cL_agrees 170 = .ok (.istore_n 2, 1) := by decide +kernel
theorem dL_agrees_171 : decode cL_agrees 171 = .ok (.iinc 8 1, 3) := by decide +kernel
theorem dL_agrees_174 : decode cL_agrees 174 = .ok (.goto (-37), 3) := by decide +kernel
theorem dL_agrees_177 : decode cL_agrees 177 = .ok (.iinc 5 1, 3) := by decide +kernel
theorem dL_agrees_180 : decode cL_agrees 180 = .ok (.goto (-109), 3) := by decide +kernel
theorem dL_agrees_183 : decode cL_agrees 183 = .ok (.iconst 0, 1) := by decide +kernel
theorem dL_agrees_184 : decode cL_agrees 184 = .ok (.istore 5, 2) := by decide +kernel
theorem dL_agrees_186 : decode cL_agrees 186 = .ok (.iload 5, 2) := by decide +kernel
theorem dL_agrees_188 : decode cL_agrees 188 = .ok (.aload_n 1, 1) := by decide +kernel
theorem dL_agrees_189 : decode cL_agrees 189 = .ok (.getfield 38, 3) := by decide +kernel
theorem dL_agrees_192 : decode cL_agrees 192 = .ok (.if_icmp .ge 97, 3) := by decide +kernel
theorem dL_agrees_195 : decode cL_agrees 195 = .ok (.iload 4, 2) := by decide +kernel
theorem dL_agrees_197 : decode cL_agrees 197 = .ok (.ifCond .eq 92, 3) := by decide +kernel
theorem dL_agrees_200 : decode cL_agrees 200 = .ok (.aload_n 0, 1) := by decide +kernel
theorem dL_agrees_201 : decode cL_agrees 201 = .ok (.aload_n 1, 1) := by decide +kernel
theorem dL_agrees_202 : decode cL_agrees 202 = .ok (.getfield 41, 3) := by decide +kernel
theorem dL_agrees_205 : decode cL_agrees 205 = .ok (.iload 5, 2) := by decide +kernel
theorem dL_agrees_207 : decode cL_agrees 207 = .ok (.iaload, 1) := by decide +kernel
theorem dL_agrees_208 : decode cL_agrees 208 = .ok (.invokevirtual 45, 3) := by decide +kernel
theorem dL_agrees_211 : decode cL_agrees 211 = .ok (.aload_n 1, 1) := by decide +kernel
theorem dL_agrees_212 : decode cL_agrees 212 = .ok (.iload 5, 2) := by decide +kernel
theorem dL_agrees_214 : decode cL_agrees 214 = .ok (.invokevirtual 48, 3) := by decide +kernel
theorem dL_agrees_217 : decode cL_agrees 217 = .ok (.if_icmp .ne 7, 3) := by decide +kernel
theorem dL_agrees_220 : decode cL_agrees 220 = .ok (.iconst 1, 1) := by decide +kernel
theorem dL_agrees_221 : decode cL_agrees 221 = .ok (.goto 4, 3) := by decide +kernel
theorem dL_agrees_224 : decode cL_agrees 224 = .ok (.iconst 0, 1) := by decide +kernel
theorem dL_agrees_225 : decode cL_agrees 225 = .ok (.istore 4, 2) := by decide +kernel
theorem dL_agrees_227 : decode cL_agrees 227 = .ok (.iconst 0, 1) := by decide +kernel
theorem dL_agrees_228 : decode cL_agrees 228 = .ok (.istore 6, 2) := by decide +kernel
theorem dL_agrees_230 : decode cL_agrees 230 = .ok (.iload 6, 2) := by decide +kernel
theorem dL_agrees_232 : decode cL_agrees 232 = .ok (.aload_n 1, 1) := by decide +kernel
theorem dL_agrees_233 : decode cL_agrees 233 = .ok (.getfield 20, 3) := by decide +kernel
theorem dL_agrees_236 : decode cL_agrees 236 = .ok (.if_icmp .ge 47, 3) := by decide +kernel
theorem dL_agrees_239 : decode cL_agrees 239 = .ok (.iload 4, 2) := by decide +kernel
theorem dL_agrees_241 : decode cL_agrees 241 = .ok (.ifCond .eq 42, 3) := by decide +kernel
theorem dL_agrees_244 : decode cL_agrees 244 = .ok (.aload_n 0, 1) := by decide +kernel
theorem dL_agrees_245 : decode cL_agrees 245 = .ok (.aload_n 1, 1) := by decide +kernel
theorem dL_agrees_246 : decode cL_agrees 246 = .ok (.getfield 41, 3) := by decide +kernel
theorem dL_agrees_249 : decode cL_agrees 249 = .ok (.iload 5, 2) := by decide +kernel
theorem dL_agrees_251 : decode cL_agrees 251 = .ok (.iaload, 1) := by decide +kernel
theorem dL_agrees_252 : decode cL_agrees 252 = .ok (.iload 6, 2) := by decide +kernel
theorem dL_agrees_254 : decode cL_agrees 254 = .ok (.invokestatic 49, 3) := by decide +kernel
theorem dL_agrees_257 : decode cL_agrees 257 = .ok (.aload_n 1, 1) := by decide +kernel
theorem dL_agrees_258 : decode cL_agrees 258 = .ok (.getfield 55, 3) := by decide +kernel
theorem dL_agrees_261 : decode cL_agrees 261 = .ok (.iload 5, 2) := by decide +kernel
theorem dL_agrees_263 : decode cL_agrees 263 = .ok (.aaload, 1) := by decide +kernel
theorem dL_agrees_264 : decode cL_agrees 264 = .ok (.iload 6, 2) := by decide +kernel
theorem dL_agrees_266 : decode cL_agrees 266 = .ok (.baload, 1) := by decide +kernel
theorem dL_agrees_267 : decode cL_agrees 267 = .ok (.if_icmp .ne 7, 3) := by decide +kernel
theorem dL_agrees_270 : decode cL_agrees 270 = .ok (.iconst 1, 1) := by decide +kernel
theorem dL_agrees_271 : decode cL_agrees 271 = .ok (.goto 4, 3) := by decide +kernel
theorem dL_agrees_274 : decode cL_agrees 274 = .ok (.iconst 0, 1) := by decide +kernel
theorem dL_agrees_275 : decode cL_agrees 275 = .ok (.istore 4, 2) := by decide +kernel
theorem dL_agrees_277 : decode cL_agrees 277 = .ok (.iinc 6 1, 3) := by decide +kernel
theorem dL_agrees_280 : decode cL_agrees 280 = .ok (.goto (-50), 3) := by decide +kernel
theorem dL_agrees_283 : decode cL_agrees 283 = .ok (.iinc 5 1, 3) := by decide +kernel
theorem dL_agrees_286 : decode cL_agrees 286 = .ok (.goto (-100), 3) := by decide +kernel
theorem dL_agrees_289 : decode cL_agrees 289 = .ok (.iload 4, 2) := by decide +kernel
theorem dL_agrees_291 : decode cL_agrees 291 = .ok (.ifCond .eq 24, 3) := by decide +kernel
theorem dL_agrees_294 : decode cL_agrees 294 = .ok (.iload_n 3, 1) := by decide +kernel
theorem dL_agrees_295 : decode cL_agrees 295 = .ok (.ifCond .eq 16, 3) := by decide +kernel
theorem dL_agrees_298 : decode cL_agrees 298 = .ok (.aload_n 0, 1) := by decide +kernel
theorem dL_agrees_299 : decode cL_agrees 299 = .ok (.invokevirtual 59, 3) := by decide +kernel
theorem dL_agrees_302 : decode cL_agrees 302 = .ok (.iload_n 2, 1) := by decide +kernel
theorem dL_agrees_303 : decode cL_agrees 303 = .ok (.i2f, 1) := by decide +kernel
theorem dL_agrees_304 : decode cL_agrees 304 = .ok (.iload_n 3, 1) := by decide +kernel
theorem dL_agrees_305 : decode cL_agrees 305 = .ok (.i2f, 1) := by decide +kernel
theorem dL_agrees_306 : decode cL_agrees 306 = .ok (.fdiv, 1) := by decide +kernel
theorem dL_agrees_307 : decode cL_agrees 307 = .ok (.fcmp .l, 1) := by decide +kernel
theorem dL_agrees_308 : decode cL_agrees 308 = .ok (.ifCond .ne 7, 3) := by decide +kernel
theorem dL_agrees_311 : decode cL_agrees 311 = .ok (.iconst 1, 1) := by decide +kernel
theorem dL_agrees_312 : decode cL_agrees 312 = .ok (.goto 4, 3) := by decide +kernel
theorem dL_agrees_315 : decode cL_agrees 315 = .ok (.iconst 0, 1) := by decide +kernel
theorem dL_agrees_316 : decode cL_agrees 316 = .ok (.ireturn, 1) := by decide +kernel
theorem dL_isSeen_0 : decode cL_isSeen 0 = .ok (.aload_n 0, 1) := by decide +kernel
theorem dL_isSeen_1 : decode cL_isSeen 1 = .ok (.iload_n 1, 1) := by decide +kernel
theorem dL_isSeen_2 : decode cL_isSeen 2 = .ok (.iconst 0, 1) := by decide +kernel
theorem dL_isSeen_3 : decode cL_isSeen 3 = .ok (.iload_n 2, 1) := by decide +kernel
theorem dL_isSeen_4 : decode cL_isSeen 4 = .ok (.invokevirtual 63, 3) := by decide +kernel
theorem dL_isSeen_7 : decode cL_isSeen 7 = .ok (.ldc2_w 67, 3) := by decide +kernel
theorem dL_isSeen_10 : decode cL_isSeen 10 = .ok (.lcmp, 1) := by decide +kernel
theorem dL_isSeen_11 : decode cL_isSeen 11 = .ok (.ifCond .le 7, 3) := by decide +kernel
theorem dL_isSeen_14 : decode cL_isSeen 14 = .ok (.iconst 1, 1) := by decide +kernel
theorem dL_isSeen_15 : decode cL_isSeen 15 = .ok (.goto 4, 3) := by decide +kernel
theorem dL_isSeen_18 : decode cL_isSeen 18 = .ok (.iconst 0, 1) := by decide +kernel
theorem dL_isSeen_19 : decode cL_isSeen 19 = .ok (.ireturn, 1) := by decide +kernel
theorem dL_isSeen_20 : decode cL_isSeen 20 = .ok (.astore_n 3, 1) := by decide +kernel
theorem dL_isSeen_21 : decode cL_isSeen 21 = .ok (.iconst 0, 1) := by decide +kernel
theorem dL_isSeen_22 : decode cL_isSeen 22 = .ok (.ireturn, 1) := by decide +kernel
theorem dL_opens_0 : decode cL_opens 0 = .ok (.aload_n 0, 1) := by decide +kernel
theorem dL_opens_1 : decode cL_opens 1 = .ok (.invokevirtual 71, 3) := by decide +kernel
theorem dL_opens_4 : decode cL_opens 4 = .ok (.istore_n 2, 1) := by decide +kernel
theorem dL_opens_5 : decode cL_opens 5 = .ok (.aload_n 1, 1) := by decide +kernel
theorem dL_opens_6 : decode cL_opens 6 = .ok (.getfield 38, 3) := by decide +kernel
theorem dL_opens_9 : decode cL_opens 9 = .ok (.iconst 4, 1) := by decide +kernel
theorem dL_opens_10 : decode cL_opens 10 = .ok (.if_icmp .ne 5, 3) := by decide +kernel
theorem dL_opens_13 : decode cL_opens 13 = .ok (.iconst 0, 1) := by decide +kernel
theorem dL_opens_14 : decode cL_opens 14 = .ok (.ireturn, 1) := by decide +kernel
theorem dL_opens_15 : decode cL_opens 15 = .ok (.aload_n 1, 1) := by decide +kernel
theorem dL_opens_16 : decode cL_opens 16 = .ok (.getfield 41, 3) := by decide +kernel
theorem dL_opens_19 : decode cL_opens 19 = .ok (.aload_n 1, 1) := by decide +kernel
theorem dL_opens_20 : decode cL_opens 20 = .ok (.getfield 38, 3) := by decide +kernel
theorem dL_opens_23 : decode cL_opens 23 = .ok (.iload_n 2, 1) := by decide +kernel
theorem dL_opens_24 : decode cL_opens 24 = .ok (.iastore, 1) := by decide +kernel
theorem dL_opens_25 : decode cL_opens 25 = .ok (.aload_n 1, 1) := by decide +kernel
theorem dL_opens_26 : decode cL_opens 26 = .ok (.getfield 55, 3) := by decide +kernel
theorem dL_opens_29 : decode cL_opens 29 = .ok (.aload_n 1, 1) := by decide +kernel
theorem dL_opens_30 : decode cL_opens 30 = .ok (.getfield 38, 3) := by decide +kernel
theorem dL_opens_33 : decode cL_opens 33 = .ok (.bipush 30, 2) := by decide +kernel
theorem dL_opens_35 : decode cL_opens 35 = .ok (.newarray .boolean, 2) := by decide +kernel
theorem dL_opens_37 : decode cL_opens 37 = .ok (.aastore, 1) := by decide +kernel
theorem dL_opens_38 : decode cL_opens 38 = .ok (.iconst 0, 1) := by decide +kernel
theorem dL_opens_39 : decode cL_opens 39 = .ok (.istore_n 3, 1) := by decide +kernel
theorem dL_opens_40 : decode cL_opens 40 = .ok (.iload_n 3, 1) := by decide +kernel
theorem dL_opens_41 : decode cL_opens 41 = .ok (.aload_n 1, 1) := by decide +kernel
theorem dL_opens_42 : decode cL_opens 42 = .ok (.getfield 20, 3) := by decide +kernel
theorem dL_opens_45 : decode cL_opens 45 = .ok (.if_icmp .ge 36, 3) := by decide +kernel
theorem dL_opens_48 : decode cL_opens 48 = .ok (.aload_n 1, 1) := by decide +kernel
theorem dL_opens_49 : decode cL_opens 49 = .ok (.getfield 55, 3) := by decide +kernel
theorem dL_opens_52 : decode cL_opens 52 = .ok (.aload_n 1, 1) := by decide +kernel
theorem dL_opens_53 : decode cL_opens 53 = .ok (.getfield 38, 3) := by decide +kernel
theorem dL_opens_56 : decode cL_opens 56 = .ok (.aaload, 1) := by decide +kernel
theorem dL_opens_57 : decode cL_opens 57 = .ok (.iload_n 3, 1) := by decide +kernel
theorem dL_opens_58 : decode cL_opens 58 = .ok (.aload_n 1, 1) := by decide +kernel
theorem dL_opens_59 : decode cL_opens 59 = .ok (.getfield 27, 3) := by decide +kernel
theorem dL_opens_62 : decode cL_opens 62 = .ok (.iload_n 3, 1) := by decide +kernel
theorem dL_opens_63 : decode cL_opens 63 = .ok (.caload, 1) := by decide +kernel
theorem dL_opens_64 : decode cL_opens 64 = .ok (.bipush 115, 2) := by decide +kernel
theorem dL_opens_66 : decode cL_opens 66 = .ok (.if_icmp .ne 7, 3) := by decide +kernel
theorem dL_opens_69 : decode cL_opens 69 = .ok (.iconst 1, 1) := by decide +kernel
theorem dL_opens_70 : decode cL_opens 70 = .ok (.goto 4, 3) := by decide +kernel
theorem dL_opens_73 : decode cL_opens 73 = .ok (.iconst 0, 1) := by decide +kernel
theorem dL_opens_74 : decode cL_opens 74 = .ok (.bastore, 1) := by decide +kernel
theorem dL_opens_75 : decode cL_opens 75 = .ok (.iinc 3 1, 3) := by decide +kernel
theorem dL_opens_78 : decode cL_opens 78 = .ok (.goto (-38), 3) := by decide +kernel
theorem dL_opens_81 : decode cL_opens 81 = .ok (.aload_n 1, 1) := by decide +kernel
theorem dL_opens_82 : decode cL_opens 82 = .ok (.dup, 1) := by decide +kernel
theorem dL_opens_83 : decode cL_opens 83 = .ok (.getfield 38, 3) := by decide +kernel
theorem dL_opens_86 : decode cL_opens 86 = .ok (.iconst 1, 1) := by decide +kernel
theorem dL_opens_87 : decode cL_opens 87 = .ok (.iadd, 1) := by decide +kernel
theorem dL_opens_88 : decode cL_opens 88 = .ok (.putfield 38, 3) := by decide +kernel
theorem dL_opens_91 : decode cL_opens 91 = .ok (.aload_n 1, 1) := by decide +kernel
theorem dL_opens_92 : decode cL_opens 92 = .ok (.dup, 1) := by decide +kernel
theorem dL_opens_93 : decode cL_opens 93 = .ok (.getfield 74, 3) := by decide +kernel
theorem dL_opens_96 : decode cL_opens 96 = .ok (.iconst 1, 1) := by decide +kernel
theorem dL_opens_97 : decode cL_opens 97 = .ok (.iadd, 1) := by decide +kernel
theorem dL_opens_98 : decode cL_opens 98 = .ok (.putfield 74, 3) := by decide +kernel
theorem dL_opens_101 : decode cL_opens 101 = .ok (.iload_n 2, 1) := by decide +kernel
theorem dL_opens_102 : decode cL_opens 102 = .ok (.aload_n 1, 1) := by decide +kernel
theorem dL_opens_103 : decode cL_opens 103 = .ok (.getfield 74, 3) := by decide +kernel
theorem dL_opens_106 : decode cL_opens 106 = .ok (.iconst 1, 1) := by decide +kernel
theorem dL_opens_107 : decode cL_opens 107 = .ok (.isub, 1) := by decide +kernel
theorem dL_opens_108 : decode cL_opens 108 = .ok (.if_icmp .ne 7, 3) := by decide +kernel
theorem dL_opens_111 : decode cL_opens 111 = .ok (.iconst 1, 1) := by decide +kernel
theorem dL_opens_112 : decode cL_opens 112 = .ok (.goto 4, 3) := by decide +kernel
theorem dL_opens_115 : decode cL_opens 115 = .ok (.iconst 0, 1) := by decide +kernel
theorem dL_opens_116 : decode cL_opens 116 = .ok (.ireturn, 1) := by decide +kernel
theorem dL_opens_117 : decode cL_opens 117 = .ok (.astore_n 2, 1) := by decide +kernel
theorem dL_opens_118 : decode cL_opens 118 = .ok (.aload_n 1, 1) := by decide +kernel
theorem dL_opens_119 : decode cL_opens 119 = .ok (.getfield 38, 3) := by decide +kernel
theorem dL_opens_122 : decode cL_opens 122 = .ok (.iconst 4, 1) := by decide +kernel
theorem dL_opens_123 : decode cL_opens 123 = .ok (.if_icmp .ne 7, 3) := by decide +kernel
theorem dL_opens_126 : decode cL_opens 126 = .ok (.iconst 1, 1) := by decide +kernel
theorem dL_opens_127 : decode cL_opens 127 = .ok (.goto 4, 3) := by decide +kernel
theorem dL_opens_130 : decode cL_opens 130 = .ok (.iconst 0, 1) := by decide +kernel
theorem dL_opens_131 : decode cL_opens 131 = .ok (.ireturn, 1) := by decide +kernel
theorem dL_closes_0 : decode cL_closes 0 = .ok (.aload_n 1, 1) := by decide +kernel
theorem dL_closes_1 : decode cL_closes 1 = .ok (.getfield 41, 3) := by decide +kernel
theorem dL_closes_4 : decode cL_closes 4 = .ok (.iload_n 2, 1) := by decide +kernel
theorem dL_closes_5 : decode cL_closes 5 = .ok (.iaload, 1) := by decide +kernel
theorem dL_closes_6 : decode cL_closes 6 = .ok (.istore_n 3, 1) := by decide +kernel
theorem dL_closes_7 : decode cL_closes 7 = .ok (.aload_n 1, 1) := by decide +kernel
theorem dL_closes_8 : decode cL_closes 8 = .ok (.dup, 1) := by decide +kernel
theorem dL_closes_9 : decode cL_closes 9 = .ok (.getfield 38, 3) := by decide +kernel
theorem dL_closes_12 : decode cL_closes 12 = .ok (.iconst 1, 1) := by decide +kernel
theorem dL_closes_13 : decode cL_closes 13 = .ok (.isub, 1) := by decide +kernel
theorem dL_closes_14 : decode cL_closes 14 = .ok (.putfield 38, 3) := by decide +kernel
theorem dL_closes_17 : decode cL_closes 17 = .ok (.iload_n 2, 1) := by decide +kernel
theorem dL_closes_18 : decode cL_closes 18 = .ok (.istore 4, 2) := by decide +kernel
theorem dL_closes_20 : decode cL_closes 20 = .ok (.iload 4, 2) := by decide +kernel
theorem dL_closes_22 : decode cL_closes 22 = .ok (.aload_n 1, 1) := by decide +kernel
theorem dL_closes_23 : decode cL_closes 23 = .ok (.getfield 38, 3) := by decide +kernel
theorem dL_closes_26 : decode cL_closes 26 = .ok (.if_icmp .ge 41, 3) := by decide +kernel
theorem dL_closes_29 : decode cL_closes 29 = .ok (.aload_n 1, 1) := by decide +kernel
theorem dL_closes_30 : decode cL_closes 30 = .ok (.getfield 41, 3) := by decide +kernel
theorem dL_closes_33 : decode cL_closes 33 = .ok (.iload 4, 2) := by decide +kernel
theorem dL_closes_35 : decode cL_closes 35 = .ok (.aload_n 1, 1) := by decide +kernel
theorem dL_closes_36 : decode cL_closes 36 = .ok (.getfield 41, 3) := by decide +kernel
theorem dL_closes_39 : decode cL_closes 39 = .ok (.iload 4, 2) := by decide +kernel
theorem dL_closes_41 : decode cL_closes 41 = .ok (.iconst 1, 1) := by decide +kernel
theorem dL_closes_42 : decode cL_closes 42 = .ok (.iadd, 1) := by decide +kernel
theorem dL_closes_43 : decode cL_closes 43 = .ok (.iaload, 1) := by decide +kernel
theorem dL_closes_44 : decode cL_closes 44 = .ok (.iastore, 1) := by decide +kernel
theorem dL_closes_45 : decode cL_closes 45 = .ok (.aload_n 1, 1) := by decide +kernel
theorem dL_closes_46 : decode cL_closes 46 = .ok (.getfield 55, 3) := by decide +kernel
theorem dL_closes_49 : decode cL_closes 49 = .ok (.iload 4, 2) := by decide +kernel
theorem dL_closes_51 : decode cL_closes 51 = .ok (.aload_n 1, 1) := by decide +kernel
theorem dL_closes_52 : decode cL_closes 52 = .ok (.getfield 55, 3) := by decide +kernel
theorem dL_closes_55 : decode cL_closes 55 = .ok (.iload 4, 2) := by decide +kernel
theorem dL_closes_57 : decode cL_closes 57 = .ok (.iconst 1, 1) := by decide +kernel
theorem dL_closes_58 : decode cL_closes 58 = .ok (.iadd, 1) := by decide +kernel
theorem dL_closes_59 : decode cL_closes 59 = .ok (.aaload, 1) := by decide +kernel
theorem dL_closes_60 : decode cL_closes 60 = .ok (.aastore, 1) := by decide +kernel
theorem dL_closes_61 : decode cL_closes 61 = .ok (.iinc 4 1, 3) := by decide +kernel
theorem dL_closes_64 : decode cL_closes 64 = .ok (.goto (-44), 3) := by decide +kernel
theorem dL_closes_67 : decode cL_closes 67 = .ok (.aload_n 0, 1) := by decide +kernel
theorem dL_closes_68 : decode cL_closes 68 = .ok (.iload_n 3, 1) := by decide +kernel
theorem dL_closes_69 : decode cL_closes 69 = .ok (.invokevirtual 79, 3) := by decide +kernel
theorem dL_closes_72 : decode cL_closes 72 = .ok (.aload_n 1, 1) := by decide +kernel
theorem dL_closes_73 : decode cL_closes 73 = .ok (.getfield 38, 3) := by decide +kernel
theorem dL_closes_76 : decode cL_closes 76 = .ok (.if_icmp .ne 7, 3) := by decide +kernel
theorem dL_closes_79 : decode cL_closes 79 = .ok (.iconst 1, 1) := by decide +kernel
theorem dL_closes_80 : decode cL_closes 80 = .ok (.goto 4, 3) := by decide +kernel
theorem dL_closes_83 : decode cL_closes 83 = .ok (.iconst 0, 1) := by decide +kernel
theorem dL_closes_84 : decode cL_closes 84 = .ok (.ireturn, 1) := by decide +kernel
theorem dL_closesText_0 : decode cL_closesText 0 = .ok (.aload_n 1, 1) := by decide +kernel
theorem dL_closesText_1 : decode cL_closesText 1 = .ok (.getfield 20, 3) := by decide +kernel
theorem dL_closesText_4 : decode cL_closesText 4 = .ok (.bipush 30, 2) := by decide +kernel
theorem dL_closesText_6 : decode cL_closesText 6 = .ok (.if_icmp .ne 25, 3) := by decide +kernel
theorem dL_closesText_9 : decode cL_closesText 9 = .ok (.aload_n 0, 1) := by decide +kernel
theorem dL_closesText_10 : decode cL_closesText 10 = .ok (.bipush 29, 2) := by decide +kernel
theorem dL_closesText_12 : decode cL_closesText 12 = .ok (.invokevirtual 23, 3) := by decide +kernel
theorem dL_closesText_15 : decode cL_closesText 15 = .ok (.aload_n 1, 1) := by decide +kernel
theorem dL_closesText_16 : decode cL_closesText 16 = .ok (.getfield 27, 3) := by decide +kernel
theorem dL_closesText_19 : decode cL_closesText 19 = .ok (.bipush 29, 2) := by decide +kernel
theorem dL_closesText_21 : decode cL_closesText 21 = .ok (.caload, 1) := by decide +kernel
theorem dL_closesText_22 : decode cL_closesText 22 = .ok (.if_icmp .ne 7, 3) := by decide +kernel
theorem dL_closesText_25 : decode cL_closesText 25 = .ok (.iconst 1, 1) := by decide +kernel
theorem dL_closesText_26 : decode cL_closesText 26 = .ok (.goto 4, 3) := by decide +kernel
theorem dL_closesText_29 : decode cL_closesText 29 = .ok (.iconst 0, 1) := by decide +kernel
theorem dL_closesText_30 : decode cL_closesText 30 = .ok (.ireturn, 1) := by decide +kernel
theorem dL_closesText_31 : decode cL_closesText 31 = .ok (.aload_n 0, 1) := by decide +kernel
theorem dL_closesText_32 : decode cL_closesText 32 = .ok (.iload_n 2, 1) := by decide +kernel
theorem dL_closesText_33 : decode cL_closesText 33 = .ok (.bipush 6, 2) := by decide +kernel
theorem dL_closesText_35 : decode cL_closesText 35 = .ok (.invokestatic 82, 3) := by decide +kernel
theorem dL_closesText_38 : decode cL_closesText 38 = .ok (.iconst (-1), 1) := by decide +kernel
theorem dL_closesText_39 : decode cL_closesText 39 = .ok (.invokevirtual 86, 3) := by decide +kernel
theorem dL_closesText_42 : decode cL_closesText 42 = .ok (.aload_n 1, 1) := by decide +kernel
theorem dL_closesText_43 : decode cL_closesText 43 = .ok (.getfield 20, 3) := by decide +kernel
theorem dL_closesText_46 : decode cL_closesText 46 = .ok (.if_icmp .ne 33, 3) := by decide +kernel
theorem dL_closesText_49 : decode cL_closesText 49 = .ok (.aload_n 0, 1) := by decide +kernel
theorem dL_closesText_50 : decode cL_closesText 50 = .ok (.iload_n 2, 1) := by decide +kernel
theorem dL_closesText_51 : decode cL_closesText 51 = .ok (.iconst 3, 1) := by decide +kernel
theorem dL_closesText_52 : decode cL_closesText 52 = .ok (.ishr, 1) := by decide +kernel
theorem dL_closesText_53 : decode cL_closesText 53 = .ok (.iconst 3, 1) := by decide +kernel
theorem dL_closesText_54 : decode cL_closesText 54 = .ok (.invokestatic 82, 3) := by decide +kernel
theorem dL_closesText_57 : decode cL_closesText 57 = .ok (.invokevirtual 89, 3) := by decide +kernel
theorem dL_closesText_60 : decode cL_closesText 60 = .ok (.iconst 1, 1) := by decide +kernel
theorem dL_closesText_61 : decode cL_closesText 61 = .ok (.if_icmp .ne 18, 3) := by decide +kernel
theorem dL_closesText_64 : decode cL_closesText 64 = .ok (.aload_n 0, 1) := by decide +kernel
theorem dL_closesText_65 : decode cL_closesText 65 = .ok (.invokevirtual 92, 3) := by decide +kernel
theorem dL_closesText_68 : decode cL_closesText 68 = .ok (.aload_n 1, 1) := by decide +kernel
theorem dL_closesText_69 : decode cL_closesText 69 = .ok (.getfield 20, 3) := by decide +kernel
theorem dL_closesText_72 : decode cL_closesText 72 = .ok (.if_icmp .ne 7, 3) := by decide +kernel
theorem dL_closesText_75 : decode cL_closesText 75 = .ok (.iconst 1, 1) := by decide +kernel
theorem dL_closesText_76 : decode cL_closesText 76 = .ok (.goto 4, 3) := by decide +kernel
theorem dL_closesText_79 : decode cL_closesText 79 = .ok (.iconst 0, 1) := by decide +kernel
theorem dL_closesText_80 : decode cL_closesText 80 = .ok (.istore_n 3, 1) := by decide +kernel
theorem dL_closesText_81 : decode cL_closesText 81 = .ok (.aload_n 1, 1) := by decide +kernel
theorem dL_closesText_82 : decode cL_closesText 82 = .ok (.getfield 27, 3) := by decide +kernel
theorem dL_closesText_85 : decode cL_closesText 85 = .ok (.aload_n 1, 1) := by decide +kernel
theorem dL_closesText_86 : decode cL_closesText 86 = .ok (.getfield 20, 3) := by decide +kernel
theorem dL_closesText_89 : decode cL_closesText 89 = .ok (.bipush 98, 2) := by decide +kernel
theorem dL_closesText_91 : decode cL_closesText 91 = .ok (.castore, 1) := by decide +kernel
theorem dL_closesText_92 : decode cL_closesText 92 = .ok (.aload_n 1, 1) := by decide +kernel
theorem dL_closesText_93 : decode cL_closesText 93 = .ok (.dup, 1) := by decide +kernel
theorem dL_closesText_94 : decode cL_closesText 94 = .ok (.getfield 20, 3) := by decide +kernel
theorem dL_closesText_97 : decode cL_closesText 97 = .ok (.iconst 1, 1) := by decide +kernel
theorem dL_closesText_98 : decode cL_closesText 98 = .ok (.iadd, 1) := by decide +kernel
theorem dL_closesText_99 : decode cL_closesText 99 = .ok (.putfield 20, 3) := by decide +kernel
theorem dL_closesText_102 : decode cL_closesText 102 = .ok (.iload_n 3, 1) := by decide +kernel
theorem dL_closesText_103 : decode cL_closesText 103 = .ok (.ireturn, 1) := by decide +kernel
theorem dL_follows_0 : decode cL_follows 0 = .ok (.iconst 0, 1) := by decide +kernel
theorem dL_follows_1 : decode cL_follows 1 = .ok (.istore_n 2, 1) := by decide +kernel
theorem dL_follows_2 : decode cL_follows 2 = .ok (.iconst 0, 1) := by decide +kernel
theorem dL_follows_3 : decode cL_follows 3 = .ok (.istore_n 3, 1) := by decide +kernel
theorem dL_follows_4 : decode cL_follows 4 = .ok (.iload_n 3, 1) := by decide +kernel
theorem dL_follows_5 : decode cL_follows 5 = .ok (.aload_n 1, 1) := by decide +kernel
theorem dL_follows_6 : decode cL_follows 6 = .ok (.getfield 95, 3) := by decide +kernel
theorem dL_follows_9 : decode cL_follows 9 = .ok (.if_icmp .ge 28, 3) := by decide +kernel
theorem dL_follows_12 : decode cL_follows 12 = .ok (.iload_n 2, 1) := by decide +kernel
theorem dL_follows_13 : decode cL_follows 13 = .ok (.aload_n 1, 1) := by decide +kernel
theorem dL_follows_14 : decode cL_follows 14 = .ok (.getfield 98, 3) := by decide +kernel
theorem dL_follows_17 : decode cL_follows 17 = .ok (.iload_n 3, 1) := by decide +kernel
theorem dL_follows_18 : decode cL_follows 18 = .ok (.caload, 1) := by decide +kernel
theorem dL_follows_19 : decode cL_follows 19 = .ok (.bipush 115, 2) := by decide +kernel
theorem dL_follows_21 : decode cL_follows 21 = .ok (.if_icmp .ne 7, 3) := by decide +kernel
theorem dL_follows_24 : decode cL_follows 24 = .ok (.iconst 1, 1) := by decide +kernel
theorem dL_follows_25 : decode cL_follows 25 = .ok (.goto 4, 3) := by decide +kernel
theorem dL_follows_28 : decode cL_follows 28 = .ok (.iconst 0, 1) := by decide +kernel
theorem dL_follows_29 : decode cL_follows 29 = .ok (.iadd, 1) := by decide +kernel
theorem dL_follows_30 : decode cL_follows 30 = .ok (.istore_n 2, 1) := by decide +kernel
theorem dL_follows_31 : decode cL_follows 31 = .ok (.iinc 3 1, 3) := by decide +kernel
theorem dL_follows_34 : decode cL_follows 34 = .ok (.goto (-30), 3) := by decide +kernel
theorem dL_follows_37 : decode cL_follows 37 = .ok (.aload_n 0, 1) := by decide +kernel
theorem dL_follows_38 : decode cL_follows 38 = .ok (.invokevirtual 101, 3) := by decide +kernel
theorem dL_follows_41 : decode cL_follows 41 = .ok (.iload_n 2, 1) := by decide +kernel
theorem dL_follows_42 : decode cL_follows 42 = .ok (.if_icmp .ne 14, 3) := by decide +kernel
theorem dL_follows_45 : decode cL_follows 45 = .ok (.aload_n 1, 1) := by decide +kernel
theorem dL_follows_46 : decode cL_follows 46 = .ok (.getfield 104, 3) := by decide +kernel
theorem dL_follows_49 : decode cL_follows 49 = .ok (.ifCond .eq 7, 3) := by decide +kernel
theorem dL_follows_52 : decode cL_follows 52 = .ok (.iconst 1, 1) := by decide +kernel
theorem dL_follows_53 : decode cL_follows 53 = .ok (.goto 4, 3) := by decide +kernel
theorem dL_follows_56 : decode cL_follows 56 = .ok (.iconst 0, 1) := by decide +kernel
theorem dL_follows_57 : decode cL_follows 57 = .ok (.istore_n 3, 1) := by decide +kernel
theorem dL_follows_58 : decode cL_follows 58 = .ok (.iconst 0, 1) := by decide +kernel
theorem dL_follows_59 : decode cL_follows 59 = .ok (.istore 4, 2) := by decide +kernel
theorem dL_follows_61 : decode cL_follows 61 = .ok (.iload 4, 2) := by decide +kernel
theorem dL_follows_63 : decode cL_follows 63 = .ok (.aload_n 1, 1) := by decide +kernel
theorem dL_follows_64 : decode cL_follows 64 = .ok (.getfield 20, 3) := by decide +kernel
theorem dL_follows_67 : decode cL_follows 67 = .ok (.if_icmp .ge 54, 3) := by decide +kernel
theorem dL_follows_70 : decode cL_follows 70 = .ok (.iload_n 3, 1) := by decide +kernel
theorem dL_follows_71 : decode cL_follows 71 = .ok (.ifCond .eq 50, 3) := by decide +kernel
theorem dL_follows_74 : decode cL_follows 74 = .ok (.aload_n 0, 1) := by decide +kernel
theorem dL_follows_75 : decode cL_follows 75 = .ok (.iload 4, 2) := by decide +kernel
theorem dL_follows_77 : decode cL_follows 77 = .ok (.invokevirtual 108, 3) := by decide +kernel
theorem dL_follows_80 : decode cL_follows 80 = .ok (.iload 4, 2) := by decide +kernel
theorem dL_follows_82 : decode cL_follows 82 = .ok (.aload_n 1, 1) := by decide +kernel
theorem dL_follows_83 : decode cL_follows 83 = .ok (.getfield 95, 3) := by decide +kernel
theorem dL_follows_86 : decode cL_follows 86 = .ok (.if_icmp .ge 19, 3) := by decide +kernel
theorem dL_follows_89 : decode cL_follows 89 = .ok (.aload_n 1, 1) := by decide +kernel
theorem dL_follows_90 : decode cL_follows 90 = .ok (.getfield 98, 3) := by decide +kernel
theorem dL_follows_93 : decode cL_follows 93 = .ok (.iload 4, 2) := by decide +kernel
theorem dL_follows_95 : decode cL_follows 95 = .ok (.caload, 1) := by decide +kernel
theorem dL_follows_96 : decode cL_follows 96 = .ok (.bipush 115, 2) := by decide +kernel
theorem dL_follows_98 : decode cL_follows 98 = .ok (.if_icmp .ne 7, 3) := by decide +kernel
theorem dL_follows_101 : decode cL_follows 101 = .ok (.iconst 1, 1) := by decide +kernel
theorem dL_follows_102 : decode cL_follows 102 = .ok (.goto 4, 3) := by decide +kernel
theorem dL_follows_105 : decode cL_follows 105 = .ok (.iconst 0, 1) := by decide +kernel
theorem dL_follows_106 : decode cL_follows 106 = .ok (.if_icmp .ne 7, 3) := by decide +kernel
theorem dL_follows_109 : decode cL_follows 109 = .ok (.iconst 1, 1) := by decide +kernel
theorem dL_follows_110 : decode cL_follows 110 = .ok (.goto 4, 3) := by decide +kernel
theorem dL_follows_113 : decode cL_follows 113 = .ok (.iconst 0, 1) := by decide +kernel
theorem dL_follows_114 : decode cL_follows 114 = .ok (.istore_n 3, 1) := by decide +kernel
theorem dL_follows_115 : decode cL_follows 115 = .ok (.iinc 4 1, 3) := by decide +kernel
theorem dL_follows_118 : decode cL_follows 118 = .ok (.goto (-57), 3) := by decide +kernel
theorem dL_follows_121 : decode cL_follows 121 = .ok (.iload_n 3, 1) := by decide +kernel
theorem dL_follows_122 : decode cL_follows 122 = .ok (.ireturn, 1) := by decide +kernel
theorem dL_follows_123 : decode cL_follows 123 = .ok (.astore_n 3, 1) := by decide +kernel
theorem dL_follows_124 : decode cL_follows 124 = .ok (.aload_n 1, 1) := by decide +kernel
theorem dL_follows_125 : decode cL_follows 125 = .ok (.getfield 104, 3) := by decide +kernel
theorem dL_follows_128 : decode cL_follows 128 = .ok (.ifCond .ne 7, 3) := by decide +kernel
theorem dL_follows_131 : decode cL_follows 131 = .ok (.iconst 1, 1) := by decide +kernel
theorem dL_follows_132 : decode cL_follows 132 = .ok (.goto 4, 3) := by decide +kernel
theorem dL_follows_135 : decode cL_follows 135 = .ok (.iconst 0, 1) := by decide +kernel
theorem dL_follows_136 : decode cL_follows 136 = .ok (.ireturn, 1) := by decide +kernel
theorem dL_acts_0 : decode cL_acts 0 = .ok (.iload_n 2, 1) := by decide +kernel
theorem dL_acts_1 : decode cL_acts 1 = .ok (.bipush 16, 2) := by decide +kernel
theorem dL_acts_3 : decode cL_acts 3 = .ok (.invokestatic 82, 3) := by decide +kernel
theorem dL_acts_6 : decode cL_acts 6 = .ok (.istore_n 3, 1) := by decide +kernel
theorem dL_acts_7 : decode cL_acts 7 = .ok (.iload_n 3, 1) := by decide +kernel
theorem dL_acts_8 : decode cL_acts 8 = .ok (.iconst 5, 1) := by decide +kernel
theorem dL_acts_9 : decode cL_acts 9 = .ok (.if_icmp .ge 12, 3) := by decide +kernel
theorem dL_acts_12 : decode cL_acts 12 = .ok (.aload_n 0, 1) := by decide +kernel
theorem dL_acts_13 : decode cL_acts 13 = .ok (.aload_n 1, 1) := by decide +kernel
theorem dL_acts_14 : decode cL_acts 14 = .ok (.iload_n 2, 1) := by decide +kernel
theorem dL_acts_15 : decode cL_acts 15 = .ok (.iconst 4, 1) := by decide +kernel
theorem dL_acts_16 : decode cL_acts 16 = .ok (.ishr, 1) := by decide +kernel
theorem dL_acts_17 : decode cL_acts 17 = .ok (.invokestatic 112, 3) := by decide +kernel
theorem dL_acts_20 : decode cL_acts 20 = .ok (.ireturn, 1) := by decide +kernel
theorem dL_acts_21 : decode cL_acts 21 = .ok (.iload_n 3, 1) := by decide +kernel
theorem dL_acts_22 : decode cL_acts 22 = .ok (.bipush 8, 2) := by decide +kernel
theorem dL_acts_24 : decode cL_acts 24 = .ok (.if_icmp .ge 103, 3) := by decide +kernel
theorem dL_acts_27 : decode cL_acts 27 = .ok (.aload_n 1, 1) := by decide +kernel
theorem dL_acts_28 : decode cL_acts 28 = .ok (.getfield 20, 3) := by decide +kernel
theorem dL_acts_31 : decode cL_acts 31 = .ok (.ifCond .le 96, 3) := by decide +kernel
theorem dL_acts_34 : decode cL_acts 34 = .ok (.iload_n 2, 1) := by decide +kernel
theorem dL_acts_35 : decode cL_acts 35 = .ok (.iconst 4, 1) := by decide +kernel
theorem dL_acts_36 : decode cL_acts 36 = .ok (.ishr, 1) := by decide +kernel
theorem dL_acts_37 : decode cL_acts 37 = .ok (.aload_n 1, 1) := by decide +kernel
theorem dL_acts_38 : decode cL_acts 38 = .ok (.getfield 20, 3) := by decide +kernel
theorem dL_acts_41 : decode cL_acts 41 = .ok (.invokestatic 82, 3) := by decide +kernel
theorem dL_acts_44 : decode cL_acts 44 = .ok (.istore 4, 2) := by decide +kernel
theorem dL_acts_46 : decode cL_acts 46 = .ok (.aload_n 1, 1) := by decide +kernel
theorem dL_acts_47 : decode cL_acts 47 = .ok (.getfield 27, 3) := by decide +kernel
theorem dL_acts_50 : decode cL_acts 50 = .ok (.iload 4, 2) := by decide +kernel
theorem dL_acts_52 : decode cL_acts 52 = .ok (.caload, 1) := by decide +kernel
theorem dL_acts_53 : decode cL_acts 53 = .ok (.bipush 98, 2) := by decide +kernel
theorem dL_acts_55 : decode cL_acts 55 = .ok (.if_icmp .eq 15, 3) := by decide +kernel
theorem dL_acts_58 : decode cL_acts 58 = .ok (.aload_n 1, 1) := by decide +kernel
theorem dL_acts_59 : decode cL_acts 59 = .ok (.getfield 27, 3) := by decide +kernel
theorem dL_acts_62 : decode cL_acts 62 = .ok (.iload 4, 2) := by decide +kernel
theorem dL_acts_64 : decode cL_acts 64 = .ok (.caload, 1) := by decide +kernel
theorem dL_acts_65 : decode cL_acts 65 = .ok (.bipush 115, 2) := by decide +kernel
theorem dL_acts_67 : decode cL_acts 67 = .ok (.if_icmp .ne 7, 3) := by decide +kernel
theorem dL_acts_70 : decode cL_acts 70 = .ok (.iconst 1, 1) := by decide +kernel
theorem dL_acts_71 : decode cL_acts 71 = .ok (.goto 4, 3) := by decide +kernel
theorem dL_acts_74 : decode cL_acts 74 = .ok (.iconst 0, 1) := by decide +kernel
theorem dL_acts_75 : decode cL_acts 75 = .ok (.istore 5, 2) := by decide +kernel
theorem dL_acts_77 : decode cL_acts 77 = .ok (.aload_n 1, 1) := by decide +kernel
theorem dL_acts_78 : decode cL_acts 78 = .ok (.getfield 27, 3) := by decide +kernel
theorem dL_acts_81 : decode cL_acts 81 = .ok (.iload 4, 2) := by decide +kernel
theorem dL_acts_83 : decode cL_acts 83 = .ok (.caload, 1) := by decide +kernel
theorem dL_acts_84 : decode cL_acts 84 = .ok (.istore 6, 2) := by decide +kernel
theorem dL_acts_86 : decode cL_acts 86 = .ok (.aload_n 1, 1) := by decide +kernel
theorem dL_acts_87 : decode cL_acts 87 = .ok (.getfield 27, 3) := by decide +kernel
theorem dL_acts_90 : decode cL_acts 90 = .ok (.iload 4, 2) := by decide +kernel
theorem dL_acts_92 : decode cL_acts 92 = .ok (.iload 5, 2) := by decide +kernel
theorem dL_acts_94 : decode cL_acts 94 = .ok (.ifCond .eq 8, 3) := by decide +kernel
theorem dL_acts_97 : decode cL_acts 97 = .ok (.bipush 114, 2) := by decide +kernel
theorem dL_acts_99 : decode cL_acts 99 = .ok (.goto 5, 3) := by decide +kernel
theorem dL_acts_102 : decode cL_acts 102 = .ok (.iload 6, 2) := by decide +kernel
theorem dL_acts_104 : decode cL_acts 104 = .ok (.castore, 1) := by decide +kernel
theorem dL_acts_105 : decode cL_acts 105 = .ok (.iload 5, 2) := by decide +kernel
theorem dL_acts_107 : decode cL_acts 107 = .ok (.ifCond .eq 14, 3) := by decide +kernel
theorem dL_acts_110 : decode cL_acts 110 = .ok (.aload_n 0, 1) := by decide +kernel
theorem dL_acts_111 : decode cL_acts 111 = .ok (.iload 4, 2) := by decide +kernel
theorem dL_acts_113 : decode cL_acts 113 = .ok (.invokevirtual 116, 3) := by decide +kernel
theorem dL_acts_116 : decode cL_acts 116 = .ok (.iload 6, 2) := by decide +kernel
theorem dL_acts_118 : decode cL_acts 118 = .ok (.if_icmp .ne 7, 3) := by decide +kernel
theorem dL_acts_121 : decode cL_acts 121 = .ok (.iconst 1, 1) := by decide +kernel
theorem dL_acts_122 : decode cL_acts 122 = .ok (.goto 4, 3) := by decide +kernel
theorem dL_acts_125 : decode cL_acts 125 = .ok (.iconst 0, 1) := by decide +kernel
theorem dL_acts_126 : decode cL_acts 126 = .ok (.ireturn, 1) := by decide +kernel
theorem dL_acts_127 : decode cL_acts 127 = .ok (.iload_n 3, 1) := by decide +kernel
theorem dL_acts_128 : decode cL_acts 128 = .ok (.bipush 10, 2) := by decide +kernel
theorem dL_acts_130 : decode cL_acts 130 = .ok (.if_icmp .ge 20, 3) := by decide +kernel
theorem dL_acts_133 : decode cL_acts 133 = .ok (.aload_n 0, 1) := by decide +kernel
theorem dL_acts_134 : decode cL_acts 134 = .ok (.invokevirtual 119, 3) := by decide +kernel
theorem dL_acts_137 : decode cL_acts 137 = .ok (.aload_n 1, 1) := by decide +kernel
theorem dL_acts_138 : decode cL_acts 138 = .ok (.invokevirtual 122, 3) := by decide +kernel
theorem dL_acts_141 : decode cL_acts 141 = .ok (.if_icmp .ne 7, 3) := by decide +kernel
theorem dL_acts_144 : decode cL_acts 144 = .ok (.iconst 1, 1) := by decide +kernel
theorem dL_acts_145 : decode cL_acts 145 = .ok (.goto 4, 3) := by decide +kernel
theorem dL_acts_148 : decode cL_acts 148 = .ok (.iconst 0, 1) := by decide +kernel
theorem dL_acts_149 : decode cL_acts 149 = .ok (.ireturn, 1) := by decide +kernel
theorem dL_acts_150 : decode cL_acts 150 = .ok (.iload_n 3, 1) := by decide +kernel
theorem dL_acts_151 : decode cL_acts 151 = .ok (.bipush 10, 2) := by decide +kernel
theorem dL_acts_153 : decode cL_acts 153 = .ok (.if_icmp .ne 46, 3) := by decide +kernel
theorem dL_acts_156 : decode cL_acts 156 = .ok (.aload_n 1, 1) := by decide +kernel
theorem dL_acts_157 : decode cL_acts 157 = .ok (.getfield 15, 3) := by decide +kernel
theorem dL_acts_160 : decode cL_acts 160 = .ok (.iconst 1, 1) := by decide +kernel
theorem dL_acts_161 : decode cL_acts 161 = .ok (.if_icmp .le 38, 3) := by decide +kernel
theorem dL_acts_164 : decode cL_acts 164 = .ok (.iload_n 2, 1) := by decide +kernel
theorem dL_acts_165 : decode cL_acts 165 = .ok (.iconst 4, 1) := by decide +kernel
theorem dL_acts_166 : decode cL_acts 166 = .ok (.ishr, 1) := by decide +kernel
theorem dL_acts_167 : decode cL_acts 167 = .ok (.aload_n 1, 1) := by decide +kernel
theorem dL_acts_168 : decode cL_acts 168 = .ok (.getfield 15, 3) := by decide +kernel
theorem dL_acts_171 : decode cL_acts 171 = .ok (.iconst 1, 1) := by decide +kernel
theorem dL_acts_172 : decode cL_acts 172 = .ok (.isub, 1) := by decide +kernel
theorem dL_acts_173 : decode cL_acts 173 = .ok (.invokestatic 82, 3) := by decide +kernel
theorem dL_acts_176 : decode cL_acts 176 = .ok (.istore 4, 2) := by decide +kernel
theorem dL_acts_178 : decode cL_acts 178 = .ok (.aload_n 0, 1) := by decide +kernel
theorem dL_acts_179 : decode cL_acts 179 = .ok (.iload 4, 2) := by decide +kernel
theorem dL_acts_181 : decode cL_acts 181 = .ok (.invokevirtual 123, 3) := by decide +kernel
theorem dL_acts_184 : decode cL_acts 184 = .ok (.aload_n 1, 1) := by decide +kernel
theorem dL_acts_185 : decode cL_acts 185 = .ok (.iload 4, 2) := by decide +kernel
theorem dL_acts_187 : decode cL_acts 187 = .ok (.invokevirtual 126, 3) := by decide +kernel
theorem dL_acts_190 : decode cL_acts 190 = .ok (.if_icmp .ne 7, 3) := by decide +kernel
theorem dL_acts_193 : decode cL_acts 193 = .ok (.iconst 1, 1) := by decide +kernel
theorem dL_acts_194 : decode cL_acts 194 = .ok (.goto 4, 3) := by decide +kernel
theorem dL_acts_197 : decode cL_acts 197 = .ok (.iconst 0, 1) := by decide +kernel
theorem dL_acts_198 : decode cL_acts 198 = .ok (.ireturn, 1) := by decide +kernel
theorem dL_acts_199 : decode cL_acts 199 = .ok (.iload_n 3, 1) := by decide +kernel
theorem dL_acts_200 : decode cL_acts 200 = .ok (.bipush 11, 2) := by decide +kernel
theorem dL_acts_202 : decode cL_acts 202 = .ok (.if_icmp .ne 24, 3) := by decide +kernel
theorem dL_acts_205 : decode cL_acts 205 = .ok (.aload_n 1, 1) := by decide +kernel
theorem dL_acts_206 : decode cL_acts 206 = .ok (.invokevirtual 127, 3) := by decide +kernel
theorem dL_acts_209 : decode cL_acts 209 = .ok (.aload_n 0, 1) := by decide +kernel
theorem dL_acts_210 : decode cL_acts 210 = .ok (.invokevirtual 130, 3) := by decide +kernel
theorem dL_acts_213 : decode cL_acts 213 = .ok (.aload_n 1, 1) := by decide +kernel
theorem dL_acts_214 : decode cL_acts 214 = .ok (.getfield 132, 3) := by decide +kernel
theorem dL_acts_217 : decode cL_acts 217 = .ok (.if_icmp .ne 7, 3) := by decide +kernel
theorem dL_acts_220 : decode cL_acts 220 = .ok (.iconst 1, 1) := by decide +kernel
theorem dL_acts_221 : decode cL_acts 221 = .ok (.goto 4, 3) := by decide +kernel
theorem dL_acts_224 : decode cL_acts 224 = .ok (.iconst 0, 1) := by decide +kernel
theorem dL_acts_225 : decode cL_acts 225 = .ok (.ireturn, 1) := by decide +kernel
theorem dL_acts_226 : decode cL_acts 226 = .ok (.iload_n 3, 1) := by decide +kernel
theorem dL_acts_227 : decode cL_acts 227 = .ok (.bipush 12, 2) := by decide +kernel
theorem dL_acts_229 : decode cL_acts 229 = .ok (.if_icmp .ne 20, 3) := by decide +kernel
theorem dL_acts_232 : decode cL_acts 232 = .ok (.aload_n 0, 1) := by decide +kernel
theorem dL_acts_233 : decode cL_acts 233 = .ok (.invokevirtual 135, 3) := by decide +kernel
theorem dL_acts_236 : decode cL_acts 236 = .ok (.aload_n 1, 1) := by decide +kernel
theorem dL_acts_237 : decode cL_acts 237 = .ok (.invokevirtual 138, 3) := by decide +kernel
theorem dL_acts_240 : decode cL_acts 240 = .ok (.if_icmp .ne 7, 3) := by decide +kernel
theorem dL_acts_243 : decode cL_acts 243 = .ok (.iconst 1, 1) := by decide +kernel
theorem dL_acts_244 : decode cL_acts 244 = .ok (.goto 4, 3) := by decide +kernel
theorem dL_acts_247 : decode cL_acts 247 = .ok (.iconst 0, 1) := by decide +kernel
theorem dL_acts_248 : decode cL_acts 248 = .ok (.ireturn, 1) := by decide +kernel
theorem dL_acts_249 : decode cL_acts 249 = .ok (.iload_n 3, 1) := by decide +kernel
theorem dL_acts_250 : decode cL_acts 250 = .ok (.bipush 13, 2) := by decide +kernel
theorem dL_acts_252 : decode cL_acts 252 = .ok (.if_icmp .ne 36, 3) := by decide +kernel
theorem dL_acts_255 : decode cL_acts 255 = .ok (.aload_n 1, 1) := by decide +kernel
theorem dL_acts_256 : decode cL_acts 256 = .ok (.getfield 38, 3) := by decide +kernel
theorem dL_acts_259 : decode cL_acts 259 = .ok (.ifCond .le 29, 3) := by decide +kernel
theorem dL_acts_262 : decode cL_acts 262 = .ok (.iload_n 2, 1) := by decide +kernel
theorem dL_acts_263 : decode cL_acts 263 = .ok (.iconst 4, 1) := by decide +kernel
theorem dL_acts_264 : decode cL_acts 264 = .ok (.ishr, 1) := by decide +kernel
theorem dL_acts_265 : decode cL_acts 265 = .ok (.iconst 2, 1) := by decide +kernel
theorem dL_acts_266 : decode cL_acts 266 = .ok (.invokestatic 82, 3) := by decide +kernel
theorem dL_acts_269 : decode cL_acts 269 = .ok (.ifCond .ne 19, 3) := by decide +kernel
theorem dL_acts_272 : decode cL_acts 272 = .ok (.aload_n 0, 1) := by decide +kernel
theorem dL_acts_273 : decode cL_acts 273 = .ok (.aload_n 1, 1) := by decide +kernel
theorem dL_acts_274 : decode cL_acts 274 = .ok (.iload_n 2, 1) := by decide +kernel
theorem dL_acts_275 : decode cL_acts 275 = .ok (.iconst 5, 1) := by decide +kernel
theorem dL_acts_276 : decode cL_acts 276 = .ok (.ishr, 1) := by decide +kernel
theorem dL_acts_277 : decode cL_acts 277 = .ok (.aload_n 1, 1) := by decide +kernel
theorem dL_acts_278 : decode cL_acts 278 = .ok (.getfield 38, 3) := by decide +kernel
theorem dL_acts_281 : decode cL_acts 281 = .ok (.invokestatic 82, 3) := by decide +kernel
theorem dL_acts_284 : decode cL_acts 284 = .ok (.invokestatic 139, 3) := by decide +kernel
theorem dL_acts_287 : decode cL_acts 287 = .ok (.ireturn, 1) := by decide +kernel
theorem dL_acts_288 : decode cL_acts 288 = .ok (.iload_n 3, 1) := by decide +kernel
theorem dL_acts_289 : decode cL_acts 289 = .ok (.bipush 15, 2) := by decide +kernel
theorem dL_acts_291 : decode cL_acts 291 = .ok (.if_icmp .ne 11, 3) := by decide +kernel
theorem dL_acts_294 : decode cL_acts 294 = .ok (.aload_n 0, 1) := by decide +kernel
theorem dL_acts_295 : decode cL_acts 295 = .ok (.aload_n 1, 1) := by decide +kernel
theorem dL_acts_296 : decode cL_acts 296 = .ok (.invokestatic 142, 3) := by decide +kernel
theorem dL_acts_299 : decode cL_acts 299 = .ok (.goto 22, 3) := by decide +kernel
theorem dL_acts_302 : decode cL_acts 302 = .ok (.iload_n 3, 1) := by decide +kernel
theorem dL_acts_303 : decode cL_acts 303 = .ok (.bipush 13, 2) := by decide +kernel
theorem dL_acts_305 : decode cL_acts 305 = .ok (.if_icmp .lt 11, 3) := by decide +kernel
theorem dL_acts_308 : decode cL_acts 308 = .ok (.aload_n 0, 1) := by decide +kernel
theorem dL_acts_309 : decode cL_acts 309 = .ok (.aload_n 1, 1) := by decide +kernel
theorem dL_acts_310 : decode cL_acts 310 = .ok (.invokestatic 146, 3) := by decide +kernel
theorem dL_acts_313 : decode cL_acts 313 = .ok (.ifCond .eq 7, 3) := by decide +kernel
theorem dL_acts_316 : decode cL_acts 316 = .ok (.iconst 1, 1) := by decide +kernel
theorem dL_acts_317 : decode cL_acts 317 = .ok (.goto 4, 3) := by decide +kernel
theorem dL_acts_320 : decode cL_acts 320 = .ok (.iconst 0, 1) := by decide +kernel
theorem dL_acts_321 : decode cL_acts 321 = .ok (.ireturn, 1) := by decide +kernel
