theorem dX0_init_0 : decode cX0_init 0 = .ok (.aload_n 0, 1) := by decide +kernel
theorem dX0_init_1 : decode cX0_init 1 = .ok (.invokespecial 1, 3) := by decide +kernel
theorem dX0_init_4 : decode cX0_init 4 = .ok (.aload_n 0, 1) := by decide +kernel
theorem dX0_init_5 : decode cX0_init 5 = .ok (.new 7, 3) := by decide +kernel
theorem dX0_init_8 : decode cX0_init 8 = .ok (.dup, 1) := by decide +kernel
theorem dX0_init_9 : decode cX0_init 9 = .ok (.invokespecial 9, 3) := by decide +kernel
theorem dX0_init_12 : decode cX0_init 12 = .ok (.putfield 10, 3) := by decide +kernel
theorem dX0_init_15 : decode cX0_init 15 = .ok (.aload_n 0, 1) := by decide +kernel
theorem dX0_init_16 : decode cX0_init 16 = .ok (.iload_n 1, 1) := by decide +kernel
theorem dX0_init_17 : decode cX0_init 17 = .ok (.putfield 16, 3) := by decide +kernel
theorem dX0_init_20 : decode cX0_init 20 = .ok (.aload_n 0, 1) := by decide +kernel
theorem dX0_init_21 : decode cX0_init 21 = .ok (.iload_n 2, 1) := by decide +kernel
theorem dX0_init_22 : decode cX0_init 22 = .ok (.putfield 20, 3) := by decide +kernel
theorem dX0_init_25 : decode cX0_init 25 = .ok (.return_, 1) := by decide +kernel
theorem dX1_init_0 : decode cX1_init 0 = .ok (.aload_n 0, 1) := by decide +kernel
theorem dX1_init_1 : decode cX1_init 1 = .ok (.invokespecial 3, 3) := by decide +kernel
theorem dX1_init_4 : decode cX1_init 4 = .ok (.aload_n 0, 1) := by decide +kernel
theorem dX1_init_5 : decode cX1_init 5 = .ok (.iload_n 1, 1) := by decide +kernel
theorem dX1_init_6 : decode cX1_init 6 = .ok (.putfield 9, 3) := by decide +kernel
theorem dX1_init_9 : decode cX1_init 9 = .ok (.aload_n 0, 1) := by decide +kernel
theorem dX1_init_10 : decode cX1_init 10 = .ok (.iload_n 2, 1) := by decide +kernel
theorem dX1_init_11 : decode cX1_init 11 = .ok (.putfield 15, 3) := by decide +kernel
theorem dX1_init_14 : decode cX1_init 14 = .ok (.aload_n 0, 1) := by decide +kernel
theorem dX1_init_15 : decode cX1_init 15 = .ok (.iload_n 3, 1) := by decide +kernel
theorem dX1_init_16 : decode cX1_init 16 = .ok (.putfield 19, 3) := by decide +kernel
theorem dX1_init_19 : decode cX1_init 19 = .ok (.aload_n 0, 1) := by decide +kernel
theorem dX1_init_20 : decode cX1_init 20 = .ok (.iload 4, 2) := by decide +kernel
theorem dX1_init_22 : decode cX1_init 22 = .ok (.putfield 22, 3) := by decide +kernel
theorem dX1_init_25 : decode cX1_init 25 = .ok (.aload_n 0, 1) := by decide +kernel
theorem dX1_init_26 : decode cX1_init 26 = .ok (.iload 5, 2) := by decide +kernel
theorem dX1_init_28 : decode cX1_init 28 = .ok (.putfield 25, 3) := by decide +kernel
theorem dX1_init_31 : decode cX1_init 31 = .ok (.aload_n 0, 1) := by decide +kernel
theorem dX1_init_32 : decode cX1_init 32 = .ok (.iload 6, 2) := by decide +kernel
theorem dX1_init_34 : decode cX1_init 34 = .ok (.putfield 28, 3) := by decide +kernel
theorem dX1_init_37 : decode cX1_init 37 = .ok (.return_, 1) := by decide +kernel
theorem dX1_canAsk_0 : decode cX1_canAsk 0 = .ok (.iload_n 0, 1) := by decide +kernel
theorem dX1_canAsk_1 : decode cX1_canAsk 1 = .ok (.bipush 119, 2) := by decide +kernel
theorem dX1_canAsk_3 : decode cX1_canAsk 3 = .ok (.if_icmp .ne 8, 3) := by decide +kernel
theorem dX1_canAsk_6 : decode cX1_canAsk 6 = .ok (.iload_n 1, 1) := by decide +kernel
theorem dX1_canAsk_7 : decode cX1_canAsk 7 = .ok (.invokestatic 31, 3) := by decide +kernel
theorem dX1_canAsk_10 : decode cX1_canAsk 10 = .ok (.ireturn, 1) := by decide +kernel
theorem dX1_canAsk_11 : decode cX1_canAsk 11 = .ok (.iload_n 0, 1) := by decide +kernel
theorem dX1_canAsk_12 : decode cX1_canAsk 12 = .ok (.bipush 112, 2) := by decide +kernel
theorem dX1_canAsk_14 : decode cX1_canAsk 14 = .ok (.if_icmp .ne 23, 3) := by decide +kernel
theorem dX1_canAsk_17 : decode cX1_canAsk 17 = .ok (.iload_n 1, 1) := by decide +kernel
theorem dX1_canAsk_18 : decode cX1_canAsk 18 = .ok (.invokestatic 31, 3) := by decide +kernel
theorem dX1_canAsk_21 : decode cX1_canAsk 21 = .ok (.ifCond .eq 14, 3) := by decide +kernel
theorem dX1_canAsk_24 : decode cX1_canAsk 24 = .ok (.iload_n 2, 1) := by decide +kernel
theorem dX1_canAsk_25 : decode cX1_canAsk 25 = .ok (.invokestatic 31, 3) := by decide +kernel
theorem dX1_canAsk_28 : decode cX1_canAsk 28 = .ok (.ifCond .eq 7, 3) := by decide +kernel
theorem dX1_canAsk_31 : decode cX1_canAsk 31 = .ok (.iconst 1, 1) := by decide +kernel
theorem dX1_canAsk_32 : decode cX1_canAsk 32 = .ok (.goto 4, 3) := by decide +kernel
theorem dX1_canAsk_35 : decode cX1_canAsk 35 = .ok (.iconst 0, 1) := by decide +kernel
theorem dX1_canAsk_36 : decode cX1_canAsk 36 = .ok (.ireturn, 1) := by decide +kernel
theorem dX1_canAsk_37 : decode cX1_canAsk 37 = .ok (.iload_n 3, 1) := by decide +kernel
theorem dX1_canAsk_38 : decode cX1_canAsk 38 = .ok (.iconst 1, 1) := by decide +kernel
theorem dX1_canAsk_39 : decode cX1_canAsk 39 = .ok (.if_icmp .lt 13, 3) := by decide +kernel
theorem dX1_canAsk_42 : decode cX1_canAsk 42 = .ok (.iload_n 3, 1) := by decide +kernel
theorem dX1_canAsk_43 : decode cX1_canAsk 43 = .ok (.bipush 9, 2) := by decide +kernel
theorem dX1_canAsk_45 : decode cX1_canAsk 45 = .ok (.if_icmp .gt 7, 3) := by decide +kernel
theorem dX1_canAsk_48 : decode cX1_canAsk 48 = .ok (.iconst 1, 1) := by decide +kernel
theorem dX1_canAsk_49 : decode cX1_canAsk 49 = .ok (.goto 4, 3) := by decide +kernel
theorem dX1_canAsk_52 : decode cX1_canAsk 52 = .ok (.iconst 0, 1) := by decide +kernel
theorem dX1_canAsk_53 : decode cX1_canAsk 53 = .ok (.istore 4, 2) := by decide +kernel
theorem dX1_canAsk_55 : decode cX1_canAsk 55 = .ok (.iload_n 0, 1) := by decide +kernel
theorem dX1_canAsk_56 : decode cX1_canAsk 56 = .ok (.bipush 110, 2) := by decide +kernel
theorem dX1_canAsk_58 : decode cX1_canAsk 58 = .ok (.if_icmp .ne 26, 3) := by decide +kernel
theorem dX1_canAsk_61 : decode cX1_canAsk 61 = .ok (.iload_n 1, 1) := by decide +kernel
theorem dX1_canAsk_62 : decode cX1_canAsk 62 = .ok (.invokestatic 31, 3) := by decide +kernel
theorem dX1_canAsk_65 : decode cX1_canAsk 65 = .ok (.ifCond .eq 19, 3) := by decide +kernel
theorem dX1_canAsk_68 : decode cX1_canAsk 68 = .ok (.iload_n 2, 1) := by decide +kernel
theorem dX1_canAsk_69 : decode cX1_canAsk 69 = .ok (.invokestatic 31, 3) := by decide +kernel
theorem dX1_canAsk_72 : decode cX1_canAsk 72 = .ok (.ifCond .eq 12, 3) := by decide +kernel
theorem dX1_canAsk_75 : decode cX1_canAsk 75 = .ok (.iload 4, 2) := by decide +kernel
theorem dX1_canAsk_77 : decode cX1_canAsk 77 = .ok (.ifCond .eq 7, 3) := by decide +kernel
theorem dX1_canAsk_80 : decode cX1_canAsk 80 = .ok (.iconst 1, 1) := by decide +kernel
theorem dX1_canAsk_81 : decode cX1_canAsk 81 = .ok (.goto 4, 3) := by decide +kernel
theorem dX1_canAsk_84 : decode cX1_canAsk 84 = .ok (.iconst 0, 1) := by decide +kernel
theorem dX1_canAsk_85 : decode cX1_canAsk 85 = .ok (.ireturn, 1) := by decide +kernel
theorem dX1_canJoin_0 : decode cX1_canJoin 0 = .ok (.iload_n 0, 1) := by decide +kernel
theorem dX1_canJoin_1 : decode cX1_canJoin 1 = .ok (.bipush 97, 2) := by decide +kernel
theorem dX1_canJoin_3 : decode cX1_canJoin 3 = .ok (.if_icmp .eq 21, 3) := by decide +kernel
theorem dX1_canJoin_6 : decode cX1_canJoin 6 = .ok (.iload_n 0, 1) := by decide +kernel
theorem dX1_canJoin_7 : decode cX1_canJoin 7 = .ok (.bipush 111, 2) := by decide +kernel
theorem dX1_canJoin_9 : decode cX1_canJoin 9 = .ok (.if_icmp .eq 15, 3) := by decide +kernel
theorem dX1_canJoin_12 : decode cX1_canJoin 12 = .ok (.iload_n 0, 1) := by decide +kernel
theorem dX1_canJoin_13 : decode cX1_canJoin 13 = .ok (.bipush 120, 2) := by decide +kernel
theorem dX1_canJoin_15 : decode cX1_canJoin 15 = .ok (.if_icmp .eq 9, 3) := by decide +kernel
theorem dX1_canJoin_18 : decode cX1_canJoin 18 = .ok (.iload_n 0, 1) := by decide +kernel
theorem dX1_canJoin_19 : decode cX1_canJoin 19 = .ok (.bipush 105, 2) := by decide +kernel
theorem dX1_canJoin_21 : decode cX1_canJoin 21 = .ok (.if_icmp .ne 7, 3) := by decide +kernel
theorem dX1_canJoin_24 : decode cX1_canJoin 24 = .ok (.iconst 1, 1) := by decide +kernel
theorem dX1_canJoin_25 : decode cX1_canJoin 25 = .ok (.goto 4, 3) := by decide +kernel
theorem dX1_canJoin_28 : decode cX1_canJoin 28 = .ok (.iconst 0, 1) := by decide +kernel
theorem dX1_canJoin_29 : decode cX1_canJoin 29 = .ok (.ireturn, 1) := by decide +kernel
theorem dX1_isOfWords_0 : decode cX1_isOfWords 0 = .ok (.aload_n 0, 1) := by decide +kernel
theorem dX1_isOfWords_1 : decode cX1_isOfWords 1 = .ok (.getfield 9, 3) := by decide +kernel
theorem dX1_isOfWords_4 : decode cX1_isOfWords 4 = .ok (.invokestatic 35, 3) := by decide +kernel
theorem dX1_isOfWords_7 : decode cX1_isOfWords 7 = .ok (.ifCond .ne 7, 3) := by decide +kernel
theorem dX1_isOfWords_10 : decode cX1_isOfWords 10 = .ok (.iconst 1, 1) := by decide +kernel
theorem dX1_isOfWords_11 : decode cX1_isOfWords 11 = .ok (.goto 4, 3) := by decide +kernel
theorem dX1_isOfWords_14 : decode cX1_isOfWords 14 = .ok (.iconst 0, 1) := by decide +kernel
theorem dX1_isOfWords_15 : decode cX1_isOfWords 15 = .ok (.ireturn, 1) := by decide +kernel
theorem dX1_nameParts_0 : decode cX1_nameParts 0 = .ok (.aload_n 0, 1) := by decide +kernel
theorem dX1_nameParts_1 : decode cX1_nameParts 1 = .ok (.invokevirtual 39, 3) := by decide +kernel
theorem dX1_nameParts_4 : decode cX1_nameParts 4 = .ok (.ifCond .eq 4, 3) := by decide +kernel
theorem dX1_nameParts_7 : decode cX1_nameParts 7 = .ok (.return_, 1) := by decide +kernel
theorem dX1_nameParts_8 : decode cX1_nameParts 8 = .ok (.aload_n 1, 1) := by decide +kernel
theorem dX1_nameParts_9 : decode cX1_nameParts 9 = .ok (.aload_n 0, 1) := by decide +kernel
theorem dX1_nameParts_10 : decode cX1_nameParts 10 = .ok (.getfield 15, 3) := by decide +kernel
theorem dX1_nameParts_13 : decode cX1_nameParts 13 = .ok (.iconst 1, 1) := by decide +kernel
theorem dX1_nameParts_14 : decode cX1_nameParts 14 = .ok (.invokevirtual 43, 3) := by decide +kernel
theorem dX1_nameParts_17 : decode cX1_nameParts 17 = .ok (.aload_n 0, 1) := by decide +kernel
theorem dX1_nameParts_18 : decode cX1_nameParts 18 = .ok (.getfield 9, 3) := by decide +kernel
theorem dX1_nameParts_21 : decode cX1_nameParts 21 = .ok (.bipush 120, 2) := by decide +kernel
theorem dX1_nameParts_23 : decode cX1_nameParts 23 = .ok (.if_icmp .ne 7, 3) := by decide +kernel
theorem dX1_nameParts_26 : decode cX1_nameParts 26 = .ok (.iload_n 2, 1) := by decide +kernel
theorem dX1_nameParts_27 : decode cX1_nameParts 27 = .ok (.ifCond .ne 12, 3) := by decide +kernel
theorem dX1_nameParts_30 : decode cX1_nameParts 30 = .ok (.aload_n 1, 1) := by decide +kernel
theorem dX1_nameParts_31 : decode cX1_nameParts 31 = .ok (.aload_n 0, 1) := by decide +kernel
theorem dX1_nameParts_32 : decode cX1_nameParts 32 = .ok (.getfield 19, 3) := by decide +kernel
theorem dX1_nameParts_35 : decode cX1_nameParts 35 = .ok (.iconst 1, 1) := by decide +kernel
theorem dX1_nameParts_36 : decode cX1_nameParts 36 = .ok (.invokevirtual 43, 3) := by decide +kernel
theorem dX1_nameParts_39 : decode cX1_nameParts 39 = .ok (.return_, 1) := by decide +kernel
theorem dX1_timesIn_0 : decode cX1_timesIn 0 = .ok (.aload_n 0, 1) := by decide +kernel
theorem dX1_timesIn_1 : decode cX1_timesIn 1 = .ok (.getfield 9, 3) := by decide +kernel
theorem dX1_timesIn_4 : decode cX1_timesIn 4 = .ok (.bipush 119, 2) := by decide +kernel
theorem dX1_timesIn_6 : decode cX1_timesIn 6 = .ok (.if_icmp .ne 12, 3) := by decide +kernel
theorem dX1_timesIn_9 : decode cX1_timesIn 9 = .ok (.aload_n 1, 1) := by decide +kernel
theorem dX1_timesIn_10 : decode cX1_timesIn 10 = .ok (.aload_n 0, 1) := by decide +kernel
theorem dX1_timesIn_11 : decode cX1_timesIn 11 = .ok (.getfield 15, 3) := by decide +kernel
theorem dX1_timesIn_14 : decode cX1_timesIn 14 = .ok (.invokevirtual 49, 3) := by decide +kernel
theorem dX1_timesIn_17 : decode cX1_timesIn 17 = .ok (.ireturn, 1) := by decide +kernel
theorem dX1_timesIn_18 : decode cX1_timesIn 18 = .ok (.iconst 0, 1) := by decide +kernel
theorem dX1_timesIn_19 : decode cX1_timesIn 19 = .ok (.istore_n 2, 1) := by decide +kernel
theorem dX1_timesIn_20 : decode cX1_timesIn 20 = .ok (.iconst 0, 1) := by decide +kernel
theorem dX1_timesIn_21 : decode cX1_timesIn 21 = .ok (.istore_n 3, 1) := by decide +kernel
theorem dX1_timesIn_22 : decode cX1_timesIn 22 = .ok (.iload_n 3, 1) := by decide +kernel
theorem dX1_timesIn_23 : decode cX1_timesIn 23 = .ok (.aload_n 1, 1) := by decide +kernel
theorem dX1_timesIn_24 : decode cX1_timesIn 24 = .ok (.getfield 55, 3) := by decide +kernel
theorem dX1_timesIn_27 : decode cX1_timesIn 27 = .ok (.if_icmp .ge 76, 3) := by decide +kernel
theorem dX1_timesIn_30 : decode cX1_timesIn 30 = .ok (.aload_n 1, 1) := by decide +kernel
theorem dX1_timesIn_31 : decode cX1_timesIn 31 = .ok (.getfield 58, 3) := by decide +kernel
theorem dX1_timesIn_34 : decode cX1_timesIn 34 = .ok (.iload_n 3, 1) := by decide +kernel
theorem dX1_timesIn_35 : decode cX1_timesIn 35 = .ok (.invokevirtual 62, 3) := by decide +kernel
theorem dX1_timesIn_38 : decode cX1_timesIn 38 = .ok (.aload_n 0, 1) := by decide +kernel
theorem dX1_timesIn_39 : decode cX1_timesIn 39 = .ok (.getfield 15, 3) := by decide +kernel
theorem dX1_timesIn_42 : decode cX1_timesIn 42 = .ok (.if_icmp .ne 55, 3) := by decide +kernel
theorem dX1_timesIn_45 : decode cX1_timesIn 45 = .ok (.aload_n 1, 1) := by decide +kernel
theorem dX1_timesIn_46 : decode cX1_timesIn 46 = .ok (.iload_n 3, 1) := by decide +kernel
theorem dX1_timesIn_47 : decode cX1_timesIn 47 = .ok (.invokevirtual 65, 3) := by decide +kernel
theorem dX1_timesIn_50 : decode cX1_timesIn 50 = .ok (.ifCond .ne 6, 3) := by decide +kernel
theorem dX1_timesIn_53 : decode cX1_timesIn 53 = .ok (.goto 44, 3) := by decide +kernel
theorem dX1_timesIn_56 : decode cX1_timesIn 56 = .ok (.iconst 0, 1) := by decide +kernel
theorem dX1_timesIn_57 : decode cX1_timesIn 57 = .ok (.istore 4, 2) := by decide +kernel
theorem dX1_timesIn_59 : decode cX1_timesIn 59 = .ok (.iload 4, 2) := by decide +kernel
theorem dX1_timesIn_61 : decode cX1_timesIn 61 = .ok (.aload_n 1, 1) := by decide +kernel
theorem dX1_timesIn_62 : decode cX1_timesIn 62 = .ok (.getfield 55, 3) := by decide +kernel
theorem dX1_timesIn_65 : decode cX1_timesIn 65 = .ok (.if_icmp .ge 32, 3) := by decide +kernel
theorem dX1_timesIn_68 : decode cX1_timesIn 68 = .ok (.aload_n 0, 1) := by decide +kernel
theorem dX1_timesIn_69 : decode cX1_timesIn 69 = .ok (.aload_n 1, 1) := by decide +kernel
theorem dX1_timesIn_70 : decode cX1_timesIn 70 = .ok (.iload_n 3, 1) := by decide +kernel
theorem dX1_timesIn_71 : decode cX1_timesIn 71 = .ok (.iload 4, 2) := by decide +kernel
theorem dX1_timesIn_73 : decode cX1_timesIn 73 = .ok (.invokevirtual 68, 3) := by decide +kernel
theorem dX1_timesIn_76 : decode cX1_timesIn 76 = .ok (.ifCond .eq 15, 3) := by decide +kernel
theorem dX1_timesIn_79 : decode cX1_timesIn 79 = .ok (.aload_n 1, 1) := by decide +kernel
theorem dX1_timesIn_80 : decode cX1_timesIn 80 = .ok (.iload 4, 2) := by decide +kernel
theorem dX1_timesIn_82 : decode cX1_timesIn 82 = .ok (.invokevirtual 65, 3) := by decide +kernel
theorem dX1_timesIn_85 : decode cX1_timesIn 85 = .ok (.ifCond .eq 6, 3) := by decide +kernel
theorem dX1_timesIn_88 : decode cX1_timesIn 88 = .ok (.iinc 2 1, 3) := by decide +kernel
theorem dX1_timesIn_91 : decode cX1_timesIn 91 = .ok (.iinc 4 1, 3) := by decide +kernel
theorem dX1_timesIn_94 : decode cX1_timesIn 94 = .ok (.goto (-35), 3) := by decide +kernel
theorem dX1_timesIn_97 : decode cX1_timesIn 97 = .ok (.iinc 3 1, 3) := by decide +kernel
theorem dX1_timesIn_100 : decode cX1_timesIn 100 = .ok (.goto (-78), 3) := by decide +kernel
theorem dX1_timesIn_103 : decode cX1_timesIn 103 = .ok (.iload_n 2, 1) := by decide +kernel
theorem dX1_timesIn_104 : decode cX1_timesIn 104 = .ok (.ireturn, 1) := by decide +kernel
theorem dX1_mark_0 : decode cX1_mark 0 = .ok (.iconst 0, 1) := by decide +kernel
theorem dX1_mark_1 : decode cX1_mark 1 = .ok (.istore_n 3, 1) := by decide +kernel
theorem dX1_mark_2 : decode cX1_mark 2 = .ok (.iload_n 3, 1) := by decide +kernel
theorem dX1_mark_3 : decode cX1_mark 3 = .ok (.aload_n 1, 1) := by decide +kernel
theorem dX1_mark_4 : decode cX1_mark 4 = .ok (.getfield 55, 3) := by decide +kernel
theorem dX1_mark_7 : decode cX1_mark 7 = .ok (.if_icmp .ge 59, 3) := by decide +kernel
theorem dX1_mark_10 : decode cX1_mark 10 = .ok (.aload_n 1, 1) := by decide +kernel
theorem dX1_mark_11 : decode cX1_mark 11 = .ok (.getfield 58, 3) := by decide +kernel
theorem dX1_mark_14 : decode cX1_mark 14 = .ok (.iload_n 3, 1) := by decide +kernel
theorem dX1_mark_15 : decode cX1_mark 15 = .ok (.invokevirtual 62, 3) := by decide +kernel
theorem dX1_mark_18 : decode cX1_mark 18 = .ok (.aload_n 0, 1) := by decide +kernel
theorem dX1_mark_19 : decode cX1_mark 19 = .ok (.getfield 15, 3) := by decide +kernel
theorem dX1_mark_22 : decode cX1_mark 22 = .ok (.if_icmp .eq 6, 3) := by decide +kernel
theorem dX1_mark_25 : decode cX1_mark 25 = .ok (.goto 35, 3) := by decide +kernel
theorem dX1_mark_28 : decode cX1_mark 28 = .ok (.aload_n 0, 1) := by decide +kernel
theorem dX1_mark_29 : decode cX1_mark 29 = .ok (.getfield 9, 3) := by decide +kernel
theorem dX1_mark_32 : decode cX1_mark 32 = .ok (.bipush 119, 2) := by decide +kernel
theorem dX1_mark_34 : decode cX1_mark 34 = .ok (.if_icmp .ne 19, 3) := by decide +kernel
theorem dX1_mark_37 : decode cX1_mark 37 = .ok (.aload_n 2, 1) := by decide +kernel
theorem dX1_mark_38 : decode cX1_mark 38 = .ok (.aload_n 1, 1) := by decide +kernel
theorem dX1_mark_39 : decode cX1_mark 39 = .ok (.getfield 72, 3) := by decide +kernel
theorem dX1_mark_42 : decode cX1_mark 42 = .ok (.iload_n 3, 1) := by decide +kernel
theorem dX1_mark_43 : decode cX1_mark 43 = .ok (.invokevirtual 62, 3) := by decide +kernel
theorem dX1_mark_46 : decode cX1_mark 46 = .ok (.iconst 1, 1) := by decide +kernel
theorem dX1_mark_47 : decode cX1_mark 47 = .ok (.invokevirtual 43, 3) := by decide +kernel
theorem dX1_mark_50 : decode cX1_mark 50 = .ok (.goto 10, 3) := by decide +kernel
theorem dX1_mark_53 : decode cX1_mark 53 = .ok (.aload_n 0, 1) := by decide +kernel
theorem dX1_mark_54 : decode cX1_mark 54 = .ok (.aload_n 1, 1) := by decide +kernel
theorem dX1_mark_55 : decode cX1_mark 55 = .ok (.iload_n 3, 1) := by decide +kernel
theorem dX1_mark_56 : decode cX1_mark 56 = .ok (.aload_n 2, 1) := by decide +kernel
theorem dX1_mark_57 : decode cX1_mark 57 = .ok (.invokevirtual 75, 3) := by decide +kernel
theorem dX1_mark_60 : decode cX1_mark 60 = .ok (.iinc 3 1, 3) := by decide +kernel
theorem dX1_mark_63 : decode cX1_mark 63 = .ok (.goto (-61), 3) := by decide +kernel
theorem dX1_mark_66 : decode cX1_mark 66 = .ok (.return_, 1) := by decide +kernel
theorem dX1_markCouples_0 : decode cX1_markCouples 0 = .ok (.iconst 0, 1) := by decide +kernel
theorem dX1_markCouples_1 : decode cX1_markCouples 1 = .ok (.istore 4, 2) := by decide +kernel
theorem dX1_markCouples_3 : decode cX1_markCouples 3 = .ok (.iload 4, 2) := by decide +kernel
theorem dX1_markCouples_5 : decode cX1_markCouples 5 = .ok (.aload_n 1, 1) := by decide +kernel
theorem dX1_markCouples_6 : decode cX1_markCouples 6 = .ok (.getfield 55, 3) := by decide +kernel
theorem dX1_markCouples_9 : decode cX1_markCouples 9 = .ok (.if_icmp .ge 50, 3) := by decide +kernel
theorem dX1_markCouples_12 : decode cX1_markCouples 12 = .ok (.aload_n 0, 1) := by decide +kernel
theorem dX1_markCouples_13 : decode cX1_markCouples 13 = .ok (.aload_n 1, 1) := by decide +kernel
theorem dX1_markCouples_14 : decode cX1_markCouples 14 = .ok (.iload_n 2, 1) := by decide +kernel
theorem dX1_markCouples_15 : decode cX1_markCouples 15 = .ok (.iload 4, 2) := by decide +kernel
theorem dX1_markCouples_17 : decode cX1_markCouples 17 = .ok (.invokevirtual 68, 3) := by decide +kernel
theorem dX1_markCouples_20 : decode cX1_markCouples 20 = .ok (.ifCond .ne 6, 3) := by decide +kernel
theorem dX1_markCouples_23 : decode cX1_markCouples 23 = .ok (.goto 30, 3) := by decide +kernel
theorem dX1_markCouples_26 : decode cX1_markCouples 26 = .ok (.aload_n 3, 1) := by decide +kernel
theorem dX1_markCouples_27 : decode cX1_markCouples 27 = .ok (.aload_n 1, 1) := by decide +kernel
theorem dX1_markCouples_28 : decode cX1_markCouples 28 = .ok (.getfield 72, 3) := by decide +kernel
theorem dX1_markCouples_31 : decode cX1_markCouples 31 = .ok (.iload_n 2, 1) := by decide +kernel
theorem dX1_markCouples_32 : decode cX1_markCouples 32 = .ok (.invokevirtual 62, 3) := by decide +kernel
theorem dX1_markCouples_35 : decode cX1_markCouples 35 = .ok (.iconst 1, 1) := by decide +kernel
theorem dX1_markCouples_36 : decode cX1_markCouples 36 = .ok (.invokevirtual 43, 3) := by decide +kernel
theorem dX1_markCouples_39 : decode cX1_markCouples 39 = .ok (.aload_n 3, 1) := by decide +kernel
theorem dX1_markCouples_40 : decode cX1_markCouples 40 = .ok (.aload_n 1, 1) := by decide +kernel
theorem dX1_markCouples_41 : decode cX1_markCouples 41 = .ok (.getfield 72, 3) := by decide +kernel
theorem dX1_markCouples_44 : decode cX1_markCouples 44 = .ok (.iload 4, 2) := by decide +kernel
theorem dX1_markCouples_46 : decode cX1_markCouples 46 = .ok (.invokevirtual 62, 3) := by decide +kernel
theorem dX1_markCouples_49 : decode cX1_markCouples 49 = .ok (.iconst 1, 1) := by decide +kernel
theorem dX1_markCouples_50 : decode cX1_markCouples 50 = .ok (.invokevirtual 43, 3) := by decide +kernel
theorem dX1_markCouples_53 : decode cX1_markCouples 53 = .ok (.iinc 4 1, 3) := by decide +kernel
theorem dX1_markCouples_56 : decode cX1_markCouples 56 = .ok (.goto (-53), 3) := by decide +kernel
theorem dX1_markCouples_59 : decode cX1_markCouples 59 = .ok (.return_, 1) := by decide +kernel
theorem dX1_isCouple_0 : decode cX1_isCouple 0 = .ok (.aload_n 1, 1) := by decide +kernel
theorem dX1_isCouple_1 : decode cX1_isCouple 1 = .ok (.getfield 58, 3) := by decide +kernel
theorem dX1_isCouple_4 : decode cX1_isCouple 4 = .ok (.iload_n 3, 1) := by decide +kernel
theorem dX1_isCouple_5 : decode cX1_isCouple 5 = .ok (.invokevirtual 62, 3) := by decide +kernel
theorem dX1_isCouple_8 : decode cX1_isCouple 8 = .ok (.aload_n 0, 1) := by decide +kernel
theorem dX1_isCouple_9 : decode cX1_isCouple 9 = .ok (.getfield 19, 3) := by decide +kernel
theorem dX1_isCouple_12 : decode cX1_isCouple 12 = .ok (.if_icmp .eq 5, 3) := by decide +kernel
theorem dX1_isCouple_15 : decode cX1_isCouple 15 = .ok (.iconst 0, 1) := by decide +kernel
theorem dX1_isCouple_16 : decode cX1_isCouple 16 = .ok (.ireturn, 1) := by decide +kernel
theorem dX1_isCouple_17 : decode cX1_isCouple 17 = .ok (.aload_n 1, 1) := by decide +kernel
theorem dX1_isCouple_18 : decode cX1_isCouple 18 = .ok (.getfield 79, 3) := by decide +kernel
theorem dX1_isCouple_21 : decode cX1_isCouple 21 = .ok (.iload_n 3, 1) := by decide +kernel
theorem dX1_isCouple_22 : decode cX1_isCouple 22 = .ok (.invokevirtual 62, 3) := by decide +kernel
theorem dX1_isCouple_25 : decode cX1_isCouple 25 = .ok (.aload_n 1, 1) := by decide +kernel
theorem dX1_isCouple_26 : decode cX1_isCouple 26 = .ok (.getfield 79, 3) := by decide +kernel
theorem dX1_isCouple_29 : decode cX1_isCouple 29 = .ok (.iload_n 2, 1) := by decide +kernel
theorem dX1_isCouple_30 : decode cX1_isCouple 30 = .ok (.invokevirtual 62, 3) := by decide +kernel
theorem dX1_isCouple_33 : decode cX1_isCouple 33 = .ok (.isub, 1) := by decide +kernel
theorem dX1_isCouple_34 : decode cX1_isCouple 34 = .ok (.istore 4, 2) := by decide +kernel
theorem dX1_isCouple_36 : decode cX1_isCouple 36 = .ok (.aload_n 0, 1) := by decide +kernel
theorem dX1_isCouple_37 : decode cX1_isCouple 37 = .ok (.getfield 9, 3) := by decide +kernel
theorem dX1_isCouple_40 : decode cX1_isCouple 40 = .ok (.bipush 112, 2) := by decide +kernel
theorem dX1_isCouple_42 : decode cX1_isCouple 42 = .ok (.if_icmp .ne 15, 3) := by decide +kernel
theorem dX1_isCouple_45 : decode cX1_isCouple 45 = .ok (.iload 4, 2) := by decide +kernel
theorem dX1_isCouple_47 : decode cX1_isCouple 47 = .ok (.iconst 1, 1) := by decide +kernel
theorem dX1_isCouple_48 : decode cX1_isCouple 48 = .ok (.if_icmp .ne 7, 3) := by decide +kernel
theorem dX1_isCouple_51 : decode cX1_isCouple 51 = .ok (.iconst 1, 1) := by decide +kernel
theorem dX1_isCouple_52 : decode cX1_isCouple 52 = .ok (.goto 4, 3) := by decide +kernel
theorem dX1_isCouple_55 : decode cX1_isCouple 55 = .ok (.iconst 0, 1) := by decide +kernel
theorem dX1_isCouple_56 : decode cX1_isCouple 56 = .ok (.ireturn, 1) := by decide +kernel
theorem dX1_isCouple_57 : decode cX1_isCouple 57 = .ok (.iload 4, 2) := by decide +kernel
theorem dX1_isCouple_59 : decode cX1_isCouple 59 = .ok (.ifCond .eq 26, 3) := by decide +kernel
theorem dX1_isCouple_62 : decode cX1_isCouple 62 = .ok (.iload 4, 2) := by decide +kernel
theorem dX1_isCouple_64 : decode cX1_isCouple 64 = .ok (.aload_n 0, 1) := by decide +kernel
theorem dX1_isCouple_65 : decode cX1_isCouple 65 = .ok (.getfield 22, 3) := by decide +kernel
theorem dX1_isCouple_68 : decode cX1_isCouple 68 = .ok (.ineg, 1) := by decide +kernel
theorem dX1_isCouple_69 : decode cX1_isCouple 69 = .ok (.if_icmp .lt 16, 3) := by decide +kernel
theorem dX1_isCouple_72 : decode cX1_isCouple 72 = .ok (.iload 4, 2) := by decide +kernel
theorem dX1_isCouple_74 : decode cX1_isCouple 74 = .ok (.aload_n 0, 1) := by decide +kernel
theorem dX1_isCouple_75 : decode cX1_isCouple 75 = .ok (.getfield 22, 3) := by decide +kernel
theorem dX1_isCouple_78 : decode cX1_isCouple 78 = .ok (.if_icmp .gt 7, 3) := by decide +kernel
theorem dX1_isCouple_81 : decode cX1_isCouple 81 = .ok (.iconst 1, 1) := by decide +kernel
theorem dX1_isCouple_82 : decode cX1_isCouple 82 = .ok (.goto 4, 3) := by decide +kernel
theorem dX1_isCouple_85 : decode cX1_isCouple 85 = .ok (.iconst 0, 1) := by decide +kernel
theorem dX1_isCouple_86 : decode cX1_isCouple 86 = .ok (.ireturn, 1) := by decide +kernel
theorem dX1_scoreFor_0 : decode cX1_scoreFor 0 = .ok (.iload 4, 2) := by decide +kernel
theorem dX1_scoreFor_2 : decode cX1_scoreFor 2 = .ok (.iconst 1, 1) := by decide +kernel
theorem dX1_scoreFor_3 : decode cX1_scoreFor 3 = .ok (.iadd, 1) := by decide +kernel
theorem dX1_scoreFor_4 : decode cX1_scoreFor 4 = .ok (.iload_n 2, 1) := by decide +kernel
theorem dX1_scoreFor_5 : decode cX1_scoreFor 5 = .ok (.iconst 4, 1) := by decide +kernel
theorem dX1_scoreFor_6 : decode cX1_scoreFor 6 = .ok (.iadd, 1) := by decide +kernel
theorem dX1_scoreFor_7 : decode cX1_scoreFor 7 = .ok (.imul, 1) := by decide +kernel
theorem dX1_scoreFor_8 : decode cX1_scoreFor 8 = .ok (.istore 5, 2) := by decide +kernel
theorem dX1_scoreFor_10 : decode cX1_scoreFor 10 = .ok (.iload 5, 2) := by decide +kernel
theorem dX1_scoreFor_12 : decode cX1_scoreFor 12 = .ok (.ifCond .gt 5, 3) := by decide +kernel
theorem dX1_scoreFor_15 : decode cX1_scoreFor 15 = .ok (.iconst 0, 1) := by decide +kernel
theorem dX1_scoreFor_16 : decode cX1_scoreFor 16 = .ok (.ireturn, 1) := by decide +kernel
theorem dX1_scoreFor_17 : decode cX1_scoreFor 17 = .ok (.bipush 100, 2) := by decide +kernel
theorem dX1_scoreFor_19 : decode cX1_scoreFor 19 = .ok (.iload_n 1, 1) := by decide +kernel
theorem dX1_scoreFor_20 : decode cX1_scoreFor 20 = .ok (.imul, 1) := by decide +kernel
theorem dX1_scoreFor_21 : decode cX1_scoreFor 21 = .ok (.iload_n 3, 1) := by decide +kernel
theorem dX1_scoreFor_22 : decode cX1_scoreFor 22 = .ok (.iconst 1, 1) := by decide +kernel
theorem dX1_scoreFor_23 : decode cX1_scoreFor 23 = .ok (.iadd, 1) := by decide +kernel
theorem dX1_scoreFor_24 : decode cX1_scoreFor 24 = .ok (.imul, 1) := by decide +kernel
theorem dX1_scoreFor_25 : decode cX1_scoreFor 25 = .ok (.iload 5, 2) := by decide +kernel
theorem dX1_scoreFor_27 : decode cX1_scoreFor 27 = .ok (.idiv, 1) := by decide +kernel
theorem dX1_scoreFor_28 : decode cX1_scoreFor 28 = .ok (.aload_n 0, 1) := by decide +kernel
theorem dX1_scoreFor_29 : decode cX1_scoreFor 29 = .ok (.getfield 25, 3) := by decide +kernel
theorem dX1_scoreFor_32 : decode cX1_scoreFor 32 = .ok (.imul, 1) := by decide +kernel
theorem dX1_scoreFor_33 : decode cX1_scoreFor 33 = .ok (.ireturn, 1) := by decide +kernel
theorem dX1_joinScores_0 : decode cX1_joinScores 0 = .ok (.iload_n 1, 1) := by decide +kernel
theorem dX1_joinScores_1 : decode cX1_joinScores 1 = .ok (.iconst (-1), 1) := by decide +kernel
theorem dX1_joinScores_2 : decode cX1_joinScores 2 = .ok (.if_icmp .eq 12, 3) := by decide +kernel
theorem dX1_joinScores_5 : decode cX1_joinScores 5 = .ok (.iload_n 2, 1) := by decide +kernel
theorem dX1_joinScores_6 : decode cX1_joinScores 6 = .ok (.iconst (-1), 1) := by decide +kernel
theorem dX1_joinScores_7 : decode cX1_joinScores 7 = .ok (.if_icmp .eq 7, 3) := by decide +kernel
theorem dX1_joinScores_10 : decode cX1_joinScores 10 = .ok (.iconst 1, 1) := by decide +kernel
theorem dX1_joinScores_11 : decode cX1_joinScores 11 = .ok (.goto 4, 3) := by decide +kernel
theorem dX1_joinScores_14 : decode cX1_joinScores 14 = .ok (.iconst 0, 1) := by decide +kernel
theorem dX1_joinScores_15 : decode cX1_joinScores 15 = .ok (.istore_n 3, 1) := by decide +kernel
theorem dX1_joinScores_16 : decode cX1_joinScores 16 = .ok (.aload_n 0, 1) := by decide +kernel
theorem dX1_joinScores_17 : decode cX1_joinScores 17 = .ok (.getfield 9, 3) := by decide +kernel
theorem dX1_joinScores_20 : decode cX1_joinScores 20 = .ok (.bipush 120, 2) := by decide +kernel
theorem dX1_joinScores_22 : decode cX1_joinScores 22 = .ok (.if_icmp .ne 14, 3) := by decide +kernel
theorem dX1_joinScores_25 : decode cX1_joinScores 25 = .ok (.iload_n 2, 1) := by decide +kernel
theorem dX1_joinScores_26 : decode cX1_joinScores 26 = .ok (.iconst (-1), 1) := by decide +kernel
theorem dX1_joinScores_27 : decode cX1_joinScores 27 = .ok (.if_icmp .ne 7, 3) := by decide +kernel
theorem dX1_joinScores_30 : decode cX1_joinScores 30 = .ok (.iload_n 1, 1) := by decide +kernel
theorem dX1_joinScores_31 : decode cX1_joinScores 31 = .ok (.goto 4, 3) := by decide +kernel
theorem dX1_joinScores_34 : decode cX1_joinScores 34 = .ok (.iconst (-1), 1) := by decide +kernel
theorem dX1_joinScores_35 : decode cX1_joinScores 35 = .ok (.ireturn, 1) := by decide +kernel
theorem dX1_joinScores_36 : decode cX1_joinScores 36 = .ok (.iload_n 3, 1) := by decide +kernel
theorem dX1_joinScores_37 : decode cX1_joinScores 37 = .ok (.ifCond .eq 7, 3) := by decide +kernel
theorem dX1_joinScores_40 : decode cX1_joinScores 40 = .ok (.iload_n 1, 1) := by decide +kernel
theorem dX1_joinScores_41 : decode cX1_joinScores 41 = .ok (.iload_n 2, 1) := by decide +kernel
theorem dX1_joinScores_42 : decode cX1_joinScores 42 = .ok (.iadd, 1) := by decide +kernel
theorem dX1_joinScores_43 : decode cX1_joinScores 43 = .ok (.ireturn, 1) := by decide +kernel
theorem dX1_joinScores_44 : decode cX1_joinScores 44 = .ok (.aload_n 0, 1) := by decide +kernel
theorem dX1_joinScores_45 : decode cX1_joinScores 45 = .ok (.getfield 9, 3) := by decide +kernel
theorem dX1_joinScores_48 : decode cX1_joinScores 48 = .ok (.bipush 97, 2) := by decide +kernel
theorem dX1_joinScores_50 : decode cX1_joinScores 50 = .ok (.if_icmp .ne 5, 3) := by decide +kernel
theorem dX1_joinScores_53 : decode cX1_joinScores 53 = .ok (.iconst (-1), 1) := by decide +kernel
theorem dX1_joinScores_54 : decode cX1_joinScores 54 = .ok (.ireturn, 1) := by decide +kernel
theorem dX1_joinScores_55 : decode cX1_joinScores 55 = .ok (.aload_n 0, 1) := by decide +kernel
theorem dX1_joinScores_56 : decode cX1_joinScores 56 = .ok (.getfield 9, 3) := by decide +kernel
theorem dX1_joinScores_59 : decode cX1_joinScores 59 = .ok (.bipush 105, 2) := by decide +kernel
theorem dX1_joinScores_61 : decode cX1_joinScores 61 = .ok (.if_icmp .ne 5, 3) := by decide +kernel
theorem dX1_joinScores_64 : decode cX1_joinScores 64 = .ok (.iload_n 1, 1) := by decide +kernel
theorem dX1_joinScores_65 : decode cX1_joinScores 65 = .ok (.ireturn, 1) := by decide +kernel
theorem dX1_joinScores_66 : decode cX1_joinScores 66 = .ok (.iload_n 1, 1) := by decide +kernel
theorem dX1_joinScores_67 : decode cX1_joinScores 67 = .ok (.iconst (-1), 1) := by decide +kernel
theorem dX1_joinScores_68 : decode cX1_joinScores 68 = .ok (.if_icmp .ne 7, 3) := by decide +kernel
theorem dX1_joinScores_71 : decode cX1_joinScores 71 = .ok (.iload_n 2, 1) := by decide +kernel
theorem dX1_joinScores_72 : decode cX1_joinScores 72 = .ok (.goto 4, 3) := by decide +kernel
theorem dX1_joinScores_75 : decode cX1_joinScores 75 = .ok (.iload_n 1, 1) := by decide +kernel
theorem dX1_joinScores_76 : decode cX1_joinScores 76 = .ok (.ireturn, 1) := by decide +kernel
theorem dX2_init_0 : decode cX2_init 0 = .ok (.aload_n 0, 1) := by decide +kernel
theorem dX2_init_1 : decode cX2_init 1 = .ok (.invokespecial 1, 3) := by decide +kernel
theorem dX2_init_4 : decode cX2_init 4 = .ok (.aload_n 0, 1) := by decide +kernel
theorem dX2_init_5 : decode cX2_init 5 = .ok (.iload_n 1, 1) := by decide +kernel
theorem dX2_init_6 : decode cX2_init 6 = .ok (.ifCond .ge 7, 3) := by decide +kernel
theorem dX2_init_9 : decode cX2_init 9 = .ok (.iconst 0, 1) := by decide +kernel
theorem dX2_init_10 : decode cX2_init 10 = .ok (.goto 4, 3) := by decide +kernel
theorem dX2_init_13 : decode cX2_init 13 = .ok (.iload_n 1, 1) := by decide +kernel
theorem dX2_init_14 : decode cX2_init 14 = .ok (.newarray .int, 2) := by decide +kernel
theorem dX2_init_16 : decode cX2_init 16 = .ok (.putfield 7, 3) := by decide +kernel
theorem dX2_init_19 : decode cX2_init 19 = .ok (.return_, 1) := by decide +kernel
theorem dX2_get_0 : decode cX2_get 0 = .ok (.iload_n 1, 1) := by decide +kernel
theorem dX2_get_1 : decode cX2_get 1 = .ok (.ifCond .lt 12, 3) := by decide +kernel
theorem dX2_get_4 : decode cX2_get 4 = .ok (.iload_n 1, 1) := by decide +kernel
theorem dX2_get_5 : decode cX2_get 5 = .ok (.aload_n 0, 1) := by decide +kernel
theorem dX2_get_6 : decode cX2_get 6 = .ok (.getfield 7, 3) := by decide +kernel
theorem dX2_get_9 : decode cX2_get 9 = .ok (.arraylength, 1) := by decide +kernel
theorem dX2_get_10 : decode cX2_get 10 = .ok (.if_icmp .lt 7, 3) := by decide +kernel
theorem dX2_get_13 : decode cX2_get 13 = .ok (.iconst 0, 1) := by decide +kernel
theorem dX2_get_14 : decode cX2_get 14 = .ok (.goto 9, 3) := by decide +kernel
theorem dX2_get_17 : decode cX2_get 17 = .ok (.aload_n 0, 1) := by decide +kernel
theorem dX2_get_18 : decode cX2_get 18 = .ok (.getfield 7, 3) := by decide +kernel
theorem dX2_get_21 : decode cX2_get 21 = .ok (.iload_n 1, 1) := by decide +kernel
theorem dX2_get_22 : decode cX2_get 22 = .ok (.iaload, 1) := by decide +kernel
theorem dX2_get_23 : decode cX2_get 23 = .ok (.ireturn, 1) := by decide +kernel
theorem dX2_put_0 : decode cX2_put 0 = .ok (.iload_n 1, 1) := by decide +kernel
theorem dX2_put_1 : decode cX2_put 1 = .ok (.ifCond .lt 19, 3) := by decide +kernel
theorem dX2_put_4 : decode cX2_put 4 = .ok (.iload_n 1, 1) := by decide +kernel
theorem dX2_put_5 : decode cX2_put 5 = .ok (.aload_n 0, 1) := by decide +kernel
theorem dX2_put_6 : decode cX2_put 6 = .ok (.getfield 7, 3) := by decide +kernel
theorem dX2_put_9 : decode cX2_put 9 = .ok (.arraylength, 1) := by decide +kernel
theorem dX2_put_10 : decode cX2_put 10 = .ok (.if_icmp .ge 10, 3) := by decide +kernel
theorem dX2_put_13 : decode cX2_put 13 = .ok (.aload_n 0, 1) := by decide +kernel
theorem dX2_put_14 : decode cX2_put 14 = .ok (.getfield 7, 3) := by decide +kernel
theorem dX2_put_17 : decode cX2_put 17 = .ok (.iload_n 1, 1) := by decide +kernel
theorem dX2_put_18 : decode cX2_put 18 = .ok (.iload_n 2, 1) := by decide +kernel
theorem dX2_put_19 : decode cX2_put 19 = .ok (.iastore, 1) := by decide +kernel
theorem dX2_put_20 : decode cX2_put 20 = .ok (.return_, 1) := by decide +kernel
theorem dX2_fill_0 : decode cX2_fill 0 = .ok (.iconst 0, 1) := by decide +kernel
theorem dX2_fill_1 : decode cX2_fill 1 = .ok (.istore_n 2, 1) := by decide +kernel
theorem dX2_fill_2 : decode cX2_fill 2 = .ok (.iload_n 2, 1) := by decide +kernel
theorem dX2_fill_3 : decode cX2_fill 3 = .ok (.aload_n 0, 1) := by decide +kernel
theorem dX2_fill_4 : decode cX2_fill 4 = .ok (.getfield 7, 3) := by decide +kernel
theorem dX2_fill_7 : decode cX2_fill 7 = .ok (.arraylength, 1) := by decide +kernel
theorem dX2_fill_8 : decode cX2_fill 8 = .ok (.if_icmp .ge 16, 3) := by decide +kernel
theorem dX2_fill_11 : decode cX2_fill 11 = .ok (.aload_n 0, 1) := by decide +kernel
theorem dX2_fill_12 : decode cX2_fill 12 = .ok (.getfield 7, 3) := by decide +kernel
theorem dX2_fill_15 : decode cX2_fill 15 = .ok (.iload_n 2, 1) := by decide +kernel
theorem dX2_fill_16 : decode cX2_fill 16 = .ok (.iload_n 1, 1) := by decide +kernel
theorem dX2_fill_17 : decode cX2_fill 17 = .ok (.iastore, 1) := by decide +kernel
theorem dX2_fill_18 : decode cX2_fill 18 = .ok (.iinc 2 1, 3) := by decide +kernel
theorem dX2_fill_21 : decode cX2_fill 21 = .ok (.goto (-19), 3) := by decide +kernel
theorem dX2_fill_24 : decode cX2_fill 24 = .ok (.return_, 1) := by decide +kernel
theorem dX2_copyFrom_0 : decode cX2_copyFrom 0 = .ok (.iconst 0, 1) := by decide +kernel
theorem dX2_copyFrom_1 : decode cX2_copyFrom 1 = .ok (.istore_n 2, 1) := by decide +kernel
theorem dX2_copyFrom_2 : decode cX2_copyFrom 2 = .ok (.iload_n 2, 1) := by decide +kernel
theorem dX2_copyFrom_3 : decode cX2_copyFrom 3 = .ok (.aload_n 0, 1) := by decide +kernel
theorem dX2_copyFrom_4 : decode cX2_copyFrom 4 = .ok (.getfield 7, 3) := by decide +kernel
theorem dX2_copyFrom_7 : decode cX2_copyFrom 7 = .ok (.arraylength, 1) := by decide +kernel
theorem dX2_copyFrom_8 : decode cX2_copyFrom 8 = .ok (.if_icmp .ge 20, 3) := by decide +kernel
theorem dX2_copyFrom_11 : decode cX2_copyFrom 11 = .ok (.aload_n 0, 1) := by decide +kernel
theorem dX2_copyFrom_12 : decode cX2_copyFrom 12 = .ok (.getfield 7, 3) := by decide +kernel
theorem dX2_copyFrom_15 : decode cX2_copyFrom 15 = .ok (.iload_n 2, 1) := by decide +kernel
theorem dX2_copyFrom_16 : decode cX2_copyFrom 16 = .ok (.aload_n 1, 1) := by decide +kernel
theorem dX2_copyFrom_17 : decode cX2_copyFrom 17 = .ok (.iload_n 2, 1) := by decide +kernel
theorem dX2_copyFrom_18 : decode cX2_copyFrom 18 = .ok (.invokevirtual 13, 3) := by decide +kernel
theorem dX2_copyFrom_21 : decode cX2_copyFrom 21 = .ok (.iastore, 1) := by decide +kernel
theorem dX2_copyFrom_22 : decode cX2_copyFrom 22 = .ok (.iinc 2 1, 3) := by decide +kernel
theorem dX2_copyFrom_25 : decode cX2_copyFrom 25 = .ok (.goto (-23), 3) := by decide +kernel
theorem dX2_copyFrom_28 : decode cX2_copyFrom 28 = .ok (.return_, 1) := by decide +kernel
theorem dX3_init_0 : decode cX3_init 0 = .ok (.aload_n 0, 1) := by decide +kernel
theorem dX3_init_1 : decode cX3_init 1 = .ok (.invokespecial 3, 3) := by decide +kernel
theorem dX3_init_4 : decode cX3_init 4 = .ok (.aload_n 0, 1) := by decide +kernel
theorem dX3_init_5 : decode cX3_init 5 = .ok (.new 9, 3) := by decide +kernel
theorem dX3_init_8 : decode cX3_init 8 = .ok (.dup, 1) := by decide +kernel
theorem dX3_init_9 : decode cX3_init 9 = .ok (.bipush 40, 2) := by decide +kernel
theorem dX3_init_11 : decode cX3_init 11 = .ok (.invokespecial 11, 3) := by decide +kernel
theorem dX3_init_14 : decode cX3_init 14 = .ok (.putfield 14, 3) := by decide +kernel
theorem dX3_init_17 : decode cX3_init 17 = .ok (.aload_n 0, 1) := by decide +kernel
theorem dX3_init_18 : decode cX3_init 18 = .ok (.new 9, 3) := by decide +kernel
theorem dX3_init_21 : decode cX3_init 21 = .ok (.dup, 1) := by decide +kernel
theorem dX3_init_22 : decode cX3_init 22 = .ok (.bipush 30, 2) := by decide +kernel
theorem dX3_init_24 : decode cX3_init 24 = .ok (.invokespecial 11, 3) := by decide +kernel
theorem dX3_init_27 : decode cX3_init 27 = .ok (.putfield 20, 3) := by decide +kernel
theorem dX3_init_30 : decode cX3_init 30 = .ok (.aload_n 0, 1) := by decide +kernel
theorem dX3_init_31 : decode cX3_init 31 = .ok (.new 9, 3) := by decide +kernel
theorem dX3_init_34 : decode cX3_init 34 = .ok (.dup, 1) := by decide +kernel
theorem dX3_init_35 : decode cX3_init 35 = .ok (.sipush 1200, 3) := by decide +kernel
theorem dX3_init_38 : decode cX3_init 38 = .ok (.invokespecial 11, 3) := by decide +kernel
theorem dX3_init_41 : decode cX3_init 41 = .ok (.putfield 23, 3) := by decide +kernel
theorem dX3_init_44 : decode cX3_init 44 = .ok (.aload_n 0, 1) := by decide +kernel
theorem dX3_init_45 : decode cX3_init 45 = .ok (.new 9, 3) := by decide +kernel
theorem dX3_init_48 : decode cX3_init 48 = .ok (.dup, 1) := by decide +kernel
theorem dX3_init_49 : decode cX3_init 49 = .ok (.bipush 30, 2) := by decide +kernel
theorem dX3_init_51 : decode cX3_init 51 = .ok (.invokespecial 11, 3) := by decide +kernel
theorem dX3_init_54 : decode cX3_init 54 = .ok (.putfield 26, 3) := by decide +kernel
theorem dX3_init_57 : decode cX3_init 57 = .ok (.aload_n 0, 1) := by decide +kernel
theorem dX3_init_58 : decode cX3_init 58 = .ok (.new 9, 3) := by decide +kernel
theorem dX3_init_61 : decode cX3_init 61 = .ok (.dup, 1) := by decide +kernel
theorem dX3_init_62 : decode cX3_init 62 = .ok (.bipush 30, 2) := by decide +kernel
theorem dX3_init_64 : decode cX3_init 64 = .ok (.invokespecial 11, 3) := by decide +kernel
theorem dX3_init_67 : decode cX3_init 67 = .ok (.putfield 29, 3) := by decide +kernel
theorem dX3_init_70 : decode cX3_init 70 = .ok (.aload_n 0, 1) := by decide +kernel
theorem dX3_init_71 : decode cX3_init 71 = .ok (.new 9, 3) := by decide +kernel
theorem dX3_init_74 : decode cX3_init 74 = .ok (.dup, 1) := by decide +kernel
theorem dX3_init_75 : decode cX3_init 75 = .ok (.bipush 12, 2) := by decide +kernel
theorem dX3_init_77 : decode cX3_init 77 = .ok (.invokespecial 11, 3) := by decide +kernel
theorem dX3_init_80 : decode cX3_init 80 = .ok (.putfield 32, 3) := by decide +kernel
theorem dX3_init_83 : decode cX3_init 83 = .ok (.return_, 1) := by decide +kernel
theorem dX3_run_0 : decode cX3_run 0 = .ok (.aload_n 0, 1) := by decide +kernel
theorem dX3_run_1 : decode cX3_run 1 = .ok (.iload 4, 2) := by decide +kernel
theorem dX3_run_3 : decode cX3_run 3 = .ok (.putfield 35, 3) := by decide +kernel
theorem dX3_run_6 : decode cX3_run 6 = .ok (.aload_n 0, 1) := by decide +kernel
theorem dX3_run_7 : decode cX3_run 7 = .ok (.aload_n 2, 1) := by decide +kernel
theorem dX3_run_8 : decode cX3_run 8 = .ok (.iload 4, 2) := by decide +kernel
theorem dX3_run_10 : decode cX3_run 10 = .ok (.iconst 0, 1) := by decide +kernel
theorem dX3_run_11 : decode cX3_run 11 = .ok (.invokevirtual 39, 3) := by decide +kernel
theorem dX3_run_14 : decode cX3_run 14 = .ok (.iconst 0, 1) := by decide +kernel
theorem dX3_run_15 : decode cX3_run 15 = .ok (.istore 6, 2) := by decide +kernel
theorem dX3_run_17 : decode cX3_run 17 = .ok (.iload 6, 2) := by decide +kernel
theorem dX3_run_19 : decode cX3_run 19 = .ok (.iload 4, 2) := by decide +kernel
theorem dX3_run_21 : decode cX3_run 21 = .ok (.if_icmp .gt 87, 3) := by decide +kernel
theorem dX3_run_24 : decode cX3_run 24 = .ok (.iload 6, 2) := by decide +kernel
theorem dX3_run_26 : decode cX3_run 26 = .ok (.aload_n 2, 1) := by decide +kernel
theorem dX3_run_27 : decode cX3_run 27 = .ok (.invokevirtual 43, 3) := by decide +kernel
theorem dX3_run_30 : decode cX3_run 30 = .ok (.if_icmp .ge 78, 3) := by decide +kernel
theorem dX3_run_33 : decode cX3_run 33 = .ok (.aload_n 0, 1) := by decide +kernel
theorem dX3_run_34 : decode cX3_run 34 = .ok (.getfield 14, 3) := by decide +kernel
theorem dX3_run_37 : decode cX3_run 37 = .ok (.iload 6, 2) := by decide +kernel
theorem dX3_run_39 : decode cX3_run 39 = .ok (.invokevirtual 49, 3) := by decide +kernel
theorem dX3_run_42 : decode cX3_run 42 = .ok (.ifCond .ne 6, 3) := by decide +kernel
theorem dX3_run_45 : decode cX3_run 45 = .ok (.goto 57, 3) := by decide +kernel
theorem dX3_run_48 : decode cX3_run 48 = .ok (.aload_n 2, 1) := by decide +kernel
theorem dX3_run_49 : decode cX3_run 49 = .ok (.iload 6, 2) := by decide +kernel
theorem dX3_run_51 : decode cX3_run 51 = .ok (.invokevirtual 53, 3) := by decide +kernel
theorem dX3_run_54 : decode cX3_run 54 = .ok (.checkcast 56, 3) := by decide +kernel
theorem dX3_run_57 : decode cX3_run 57 = .ok (.invokevirtual 58, 3) := by decide +kernel
theorem dX3_run_60 : decode cX3_run 60 = .ok (.ifCond .eq 23, 3) := by decide +kernel
theorem dX3_run_63 : decode cX3_run 63 = .ok (.aload_n 0, 1) := by decide +kernel
theorem dX3_run_64 : decode cX3_run 64 = .ok (.aload_n 1, 1) := by decide +kernel
theorem dX3_run_65 : decode cX3_run 65 = .ok (.aload_n 2, 1) := by decide +kernel
theorem dX3_run_66 : decode cX3_run 66 = .ok (.iload 6, 2) := by decide +kernel
theorem dX3_run_68 : decode cX3_run 68 = .ok (.invokevirtual 53, 3) := by decide +kernel
theorem dX3_run_71 : decode cX3_run 71 = .ok (.checkcast 56, 3) := by decide +kernel
theorem dX3_run_74 : decode cX3_run 74 = .ok (.iload 6, 2) := by decide +kernel
theorem dX3_run_76 : decode cX3_run 76 = .ok (.aload_n 3, 1) := by decide +kernel
theorem dX3_run_77 : decode cX3_run 77 = .ok (.invokevirtual 62, 3) := by decide +kernel
theorem dX3_run_80 : decode cX3_run 80 = .ok (.goto 22, 3) := by decide +kernel
theorem dX3_run_83 : decode cX3_run 83 = .ok (.aload_n 0, 1) := by decide +kernel
theorem dX3_run_84 : decode cX3_run 84 = .ok (.aload_n 1, 1) := by decide +kernel
theorem dX3_run_85 : decode cX3_run 85 = .ok (.invokevirtual 43, 3) := by decide +kernel
theorem dX3_run_88 : decode cX3_run 88 = .ok (.aload_n 2, 1) := by decide +kernel
theorem dX3_run_89 : decode cX3_run 89 = .ok (.iload 6, 2) := by decide +kernel
theorem dX3_run_91 : decode cX3_run 91 = .ok (.invokevirtual 53, 3) := by decide +kernel
theorem dX3_run_94 : decode cX3_run 94 = .ok (.checkcast 56, 3) := by decide +kernel
theorem dX3_run_97 : decode cX3_run 97 = .ok (.iload 6, 2) := by decide +kernel
theorem dX3_run_99 : decode cX3_run 99 = .ok (.invokevirtual 66, 3) := by decide +kernel
theorem dX3_run_102 : decode cX3_run 102 = .ok (.iinc 6 1, 3) := by decide +kernel
theorem dX3_run_105 : decode cX3_run 105 = .ok (.goto (-88), 3) := by decide +kernel
theorem dX3_run_108 : decode cX3_run 108 = .ok (.aload_n 0, 1) := by decide +kernel
theorem dX3_run_109 : decode cX3_run 109 = .ok (.aload_n 1, 1) := by decide +kernel
theorem dX3_run_110 : decode cX3_run 110 = .ok (.iload 5, 2) := by decide +kernel
theorem dX3_run_112 : decode cX3_run 112 = .ok (.invokevirtual 70, 3) := by decide +kernel
theorem dX3_run_115 : decode cX3_run 115 = .ok (.return_, 1) := by decide +kernel
theorem dX3_hitAt_0 : decode cX3_hitAt 0 = .ok (.aload_n 0, 1) := by decide +kernel
theorem dX3_hitAt_1 : decode cX3_hitAt 1 = .ok (.getfield 29, 3) := by decide +kernel
theorem dX3_hitAt_4 : decode cX3_hitAt 4 = .ok (.iload_n 1, 1) := by decide +kernel
theorem dX3_hitAt_5 : decode cX3_hitAt 5 = .ok (.invokevirtual 49, 3) := by decide +kernel
theorem dX3_hitAt_8 : decode cX3_hitAt 8 = .ok (.ireturn, 1) := by decide +kernel
theorem dX3_scoreOf_0 : decode cX3_scoreOf 0 = .ok (.aload_n 0, 1) := by decide +kernel
theorem dX3_scoreOf_1 : decode cX3_scoreOf 1 = .ok (.getfield 23, 3) := by decide +kernel
theorem dX3_scoreOf_4 : decode cX3_scoreOf 4 = .ok (.aload_n 0, 1) := by decide +kernel
theorem dX3_scoreOf_5 : decode cX3_scoreOf 5 = .ok (.getfield 35, 3) := by decide +kernel
theorem dX3_scoreOf_8 : decode cX3_scoreOf 8 = .ok (.iload_n 1, 1) := by decide +kernel
theorem dX3_scoreOf_9 : decode cX3_scoreOf 9 = .ok (.invokestatic 74, 3) := by decide +kernel
theorem dX3_scoreOf_12 : decode cX3_scoreOf 12 = .ok (.invokevirtual 49, 3) := by decide +kernel
theorem dX3_scoreOf_15 : decode cX3_scoreOf 15 = .ok (.ireturn, 1) := by decide +kernel
theorem dX3_markedIndex_0 : decode cX3_markedIndex 0 = .ok (.aload_n 0, 1) := by decide +kernel
theorem dX3_markedIndex_1 : decode cX3_markedIndex 1 = .ok (.aload_n 1, 1) := by decide +kernel
theorem dX3_markedIndex_2 : decode cX3_markedIndex 2 = .ok (.iload_n 2, 1) := by decide +kernel
theorem dX3_markedIndex_3 : decode cX3_markedIndex 3 = .ok (.iconst 1, 1) := by decide +kernel
theorem dX3_markedIndex_4 : decode cX3_markedIndex 4 = .ok (.invokevirtual 39, 3) := by decide +kernel
theorem dX3_markedIndex_7 : decode cX3_markedIndex 7 = .ok (.aload_n 0, 1) := by decide +kernel
theorem dX3_markedIndex_8 : decode cX3_markedIndex 8 = .ok (.getfield 32, 3) := by decide +kernel
theorem dX3_markedIndex_11 : decode cX3_markedIndex 11 = .ok (.iconst 0, 1) := by decide +kernel
theorem dX3_markedIndex_12 : decode cX3_markedIndex 12 = .ok (.invokevirtual 78, 3) := by decide +kernel
theorem dX3_markedIndex_15 : decode cX3_markedIndex 15 = .ok (.iconst 0, 1) := by decide +kernel
theorem dX3_markedIndex_16 : decode cX3_markedIndex 16 = .ok (.istore 5, 2) := by decide +kernel
theorem dX3_markedIndex_18 : decode cX3_markedIndex 18 = .ok (.iload 5, 2) := by decide +kernel
theorem dX3_markedIndex_20 : decode cX3_markedIndex 20 = .ok (.iload_n 2, 1) := by decide +kernel
theorem dX3_markedIndex_21 : decode cX3_markedIndex 21 = .ok (.if_icmp .gt 63, 3) := by decide +kernel
theorem dX3_markedIndex_24 : decode cX3_markedIndex 24 = .ok (.iload 5, 2) := by decide +kernel
theorem dX3_markedIndex_26 : decode cX3_markedIndex 26 = .ok (.aload_n 1, 1) := by decide +kernel
theorem dX3_markedIndex_27 : decode cX3_markedIndex 27 = .ok (.invokevirtual 43, 3) := by decide +kernel
theorem dX3_markedIndex_30 : decode cX3_markedIndex 30 = .ok (.if_icmp .ge 54, 3) := by decide +kernel
theorem dX3_markedIndex_33 : decode cX3_markedIndex 33 = .ok (.aload_n 0, 1) := by decide +kernel
theorem dX3_markedIndex_34 : decode cX3_markedIndex 34 = .ok (.getfield 14, 3) := by decide +kernel
theorem dX3_markedIndex_37 : decode cX3_markedIndex 37 = .ok (.iload 5, 2) := by decide +kernel
theorem dX3_markedIndex_39 : decode cX3_markedIndex 39 = .ok (.invokevirtual 49, 3) := by decide +kernel
theorem dX3_markedIndex_42 : decode cX3_markedIndex 42 = .ok (.iconst 1, 1) := by decide +kernel
theorem dX3_markedIndex_43 : decode cX3_markedIndex 43 = .ok (.if_icmp .ne 35, 3) := by decide +kernel
theorem dX3_markedIndex_46 : decode cX3_markedIndex 46 = .ok (.aload_n 1, 1) := by decide +kernel
theorem dX3_markedIndex_47 : decode cX3_markedIndex 47 = .ok (.iload 5, 2) := by decide +kernel
theorem dX3_markedIndex_49 : decode cX3_markedIndex 49 = .ok (.invokevirtual 53, 3) := by decide +kernel
theorem dX3_markedIndex_52 : decode cX3_markedIndex 52 = .ok (.checkcast 56, 3) := by decide +kernel
theorem dX3_markedIndex_55 : decode cX3_markedIndex 55 = .ok (.invokevirtual 58, 3) := by decide +kernel
theorem dX3_markedIndex_58 : decode cX3_markedIndex 58 = .ok (.ifCond .eq 20, 3) := by decide +kernel
theorem dX3_markedIndex_61 : decode cX3_markedIndex 61 = .ok (.aload_n 1, 1) := by decide +kernel
theorem dX3_markedIndex_62 : decode cX3_markedIndex 62 = .ok (.iload 5, 2) := by decide +kernel
theorem dX3_markedIndex_64 : decode cX3_markedIndex 64 = .ok (.invokevirtual 53, 3) := by decide +kernel
theorem dX3_markedIndex_67 : decode cX3_markedIndex 67 = .ok (.checkcast 56, 3) := by decide +kernel
theorem dX3_markedIndex_70 : decode cX3_markedIndex 70 = .ok (.aload_n 3, 1) := by decide +kernel
theorem dX3_markedIndex_71 : decode cX3_markedIndex 71 = .ok (.aload_n 0, 1) := by decide +kernel
theorem dX3_markedIndex_72 : decode cX3_markedIndex 72 = .ok (.getfield 32, 3) := by decide +kernel
theorem dX3_markedIndex_75 : decode cX3_markedIndex 75 = .ok (.invokevirtual 81, 3) := by decide +kernel
theorem dX3_markedIndex_78 : decode cX3_markedIndex 78 = .ok (.iinc 5 1, 3) := by decide +kernel
theorem dX3_markedIndex_81 : decode cX3_markedIndex 81 = .ok (.goto (-63), 3) := by decide +kernel
theorem dX3_markedIndex_84 : decode cX3_markedIndex 84 = .ok (.iconst 0, 1) := by decide +kernel
theorem dX3_markedIndex_85 : decode cX3_markedIndex 85 = .ok (.istore 5, 2) := by decide +kernel
theorem dX3_markedIndex_87 : decode cX3_markedIndex 87 = .ok (.iconst 0, 1) := by decide +kernel
theorem dX3_markedIndex_88 : decode cX3_markedIndex 88 = .ok (.istore 6, 2) := by decide +kernel
theorem dX3_markedIndex_90 : decode cX3_markedIndex 90 = .ok (.iload 6, 2) := by decide +kernel
theorem dX3_markedIndex_92 : decode cX3_markedIndex 92 = .ok (.bipush 12, 2) := by decide +kernel
theorem dX3_markedIndex_94 : decode cX3_markedIndex 94 = .ok (.if_icmp .ge 37, 3) := by decide +kernel
theorem dX3_markedIndex_97 : decode cX3_markedIndex 97 = .ok (.aload_n 0, 1) := by decide +kernel
theorem dX3_markedIndex_98 : decode cX3_markedIndex 98 = .ok (.getfield 32, 3) := by decide +kernel
theorem dX3_markedIndex_101 : decode cX3_markedIndex 101 = .ok (.iload 6, 2) := by decide +kernel
theorem dX3_markedIndex_103 : decode cX3_markedIndex 103 = .ok (.invokevirtual 49, 3) := by decide +kernel
theorem dX3_markedIndex_106 : decode cX3_markedIndex 106 = .ok (.ifCond .ne 6, 3) := by decide +kernel
theorem dX3_markedIndex_109 : decode cX3_markedIndex 109 = .ok (.goto 16, 3) := by decide +kernel
theorem dX3_markedIndex_112 : decode cX3_markedIndex 112 = .ok (.iload 5, 2) := by decide +kernel
theorem dX3_markedIndex_114 : decode cX3_markedIndex 114 = .ok (.iload 4, 2) := by decide +kernel
theorem dX3_markedIndex_116 : decode cX3_markedIndex 116 = .ok (.if_icmp .ne 6, 3) := by decide +kernel
theorem dX3_markedIndex_119 : decode cX3_markedIndex 119 = .ok (.iload 6, 2) := by decide +kernel
theorem dX3_markedIndex_121 : decode cX3_markedIndex 121 = .ok (.ireturn, 1) := by decide +kernel
theorem dX3_markedIndex_122 : decode cX3_markedIndex 122 = .ok (.iinc 5 1, 3) := by decide +kernel
theorem dX3_markedIndex_125 : decode cX3_markedIndex 125 = .ok (.iinc 6 1, 3) := by decide +kernel
theorem dX3_markedIndex_128 : decode cX3_markedIndex 128 = .ok (.goto (-38), 3) := by decide +kernel
theorem dX3_markedIndex_131 : decode cX3_markedIndex 131 = .ok (.iconst (-1), 1) := by decide +kernel
theorem dX3_markedIndex_132 : decode cX3_markedIndex 132 = .ok (.ireturn, 1) := by decide +kernel
theorem dX3_gatherParts_0 : decode cX3_gatherParts 0 = .ok (.aload_n 0, 1) := by decide +kernel
theorem dX3_gatherParts_1 : decode cX3_gatherParts 1 = .ok (.getfield 14, 3) := by decide +kernel
theorem dX3_gatherParts_4 : decode cX3_gatherParts 4 = .ok (.iconst 0, 1) := by decide +kernel
theorem dX3_gatherParts_5 : decode cX3_gatherParts 5 = .ok (.invokevirtual 78, 3) := by decide +kernel
theorem dX3_gatherParts_8 : decode cX3_gatherParts 8 = .ok (.aload_n 0, 1) := by decide +kernel
theorem dX3_gatherParts_9 : decode cX3_gatherParts 9 = .ok (.getfield 14, 3) := by decide +kernel
theorem dX3_gatherParts_12 : decode cX3_gatherParts 12 = .ok (.iload_n 2, 1) := by decide +kernel
theorem dX3_gatherParts_13 : decode cX3_gatherParts 13 = .ok (.iconst 1, 1) := by decide +kernel
theorem dX3_gatherParts_14 : decode cX3_gatherParts 14 = .ok (.invokevirtual 85, 3) := by decide +kernel
theorem dX3_gatherParts_17 : decode cX3_gatherParts 17 = .ok (.iload_n 2, 1) := by decide +kernel
theorem dX3_gatherParts_18 : decode cX3_gatherParts 18 = .ok (.istore 4, 2) := by decide +kernel
theorem dX3_gatherParts_20 : decode cX3_gatherParts 20 = .ok (.iload 4, 2) := by decide +kernel
theorem dX3_gatherParts_22 : decode cX3_gatherParts 22 = .ok (.ifCond .lt 48, 3) := by decide +kernel
theorem dX3_gatherParts_25 : decode cX3_gatherParts 25 = .ok (.aload_n 0, 1) := by decide +kernel
theorem dX3_gatherParts_26 : decode cX3_gatherParts 26 = .ok (.getfield 14, 3) := by decide +kernel
theorem dX3_gatherParts_29 : decode cX3_gatherParts 29 = .ok (.iload 4, 2) := by decide +kernel
theorem dX3_gatherParts_31 : decode cX3_gatherParts 31 = .ok (.invokevirtual 49, 3) := by decide +kernel
theorem dX3_gatherParts_34 : decode cX3_gatherParts 34 = .ok (.iconst 1, 1) := by decide +kernel
theorem dX3_gatherParts_35 : decode cX3_gatherParts 35 = .ok (.if_icmp .ne 29, 3) := by decide +kernel
theorem dX3_gatherParts_38 : decode cX3_gatherParts 38 = .ok (.iload 4, 2) := by decide +kernel
theorem dX3_gatherParts_40 : decode cX3_gatherParts 40 = .ok (.aload_n 1, 1) := by decide +kernel
theorem dX3_gatherParts_41 : decode cX3_gatherParts 41 = .ok (.invokevirtual 43, 3) := by decide +kernel
theorem dX3_gatherParts_44 : decode cX3_gatherParts 44 = .ok (.if_icmp .ge 20, 3) := by decide +kernel
theorem dX3_gatherParts_47 : decode cX3_gatherParts 47 = .ok (.aload_n 1, 1) := by decide +kernel
theorem dX3_gatherParts_48 : decode cX3_gatherParts 48 = .ok (.iload 4, 2) := by decide +kernel
theorem dX3_gatherParts_50 : decode cX3_gatherParts 50 = .ok (.invokevirtual 53, 3) := by decide +kernel
theorem dX3_gatherParts_53 : decode cX3_gatherParts 53 = .ok (.checkcast 56, 3) := by decide +kernel
theorem dX3_gatherParts_56 : decode cX3_gatherParts 56 = .ok (.aload_n 0, 1) := by decide +kernel
theorem dX3_gatherParts_57 : decode cX3_gatherParts 57 = .ok (.getfield 14, 3) := by decide +kernel
theorem dX3_gatherParts_60 : decode cX3_gatherParts 60 = .ok (.iload_n 3, 1) := by decide +kernel
theorem dX3_gatherParts_61 : decode cX3_gatherParts 61 = .ok (.invokevirtual 89, 3) := by decide +kernel
theorem dX3_gatherParts_64 : decode cX3_gatherParts 64 = .ok (.iinc 4 (-1), 3) := by decide +kernel
theorem dX3_gatherParts_67 : decode cX3_gatherParts 67 = .ok (.goto (-47), 3) := by decide +kernel
theorem dX3_gatherParts_70 : decode cX3_gatherParts 70 = .ok (.return_, 1) := by decide +kernel
theorem dX3_scoreWords_0 : decode cX3_scoreWords 0 = .ok (.iconst 0, 1) := by decide +kernel
theorem dX3_scoreWords_1 : decode cX3_scoreWords 1 = .ok (.istore 5, 2) := by decide +kernel
theorem dX3_scoreWords_3 : decode cX3_scoreWords 3 = .ok (.iconst 0, 1) := by decide +kernel
theorem dX3_scoreWords_4 : decode cX3_scoreWords 4 = .ok (.istore 6, 2) := by decide +kernel
theorem dX3_scoreWords_6 : decode cX3_scoreWords 6 = .ok (.iload 6, 2) := by decide +kernel
theorem dX3_scoreWords_8 : decode cX3_scoreWords 8 = .ok (.aload_n 1, 1) := by decide +kernel
theorem dX3_scoreWords_9 : decode cX3_scoreWords 9 = .ok (.invokevirtual 43, 3) := by decide +kernel
theorem dX3_scoreWords_12 : decode cX3_scoreWords 12 = .ok (.if_icmp .ge 63, 3) := by decide +kernel
theorem dX3_scoreWords_15 : decode cX3_scoreWords 15 = .ok (.aload_n 0, 1) := by decide +kernel
theorem dX3_scoreWords_16 : decode cX3_scoreWords 16 = .ok (.getfield 20, 3) := by decide +kernel
theorem dX3_scoreWords_19 : decode cX3_scoreWords 19 = .ok (.iload 6, 2) := by decide +kernel
theorem dX3_scoreWords_21 : decode cX3_scoreWords 21 = .ok (.aload 4, 2) := by decide +kernel
theorem dX3_scoreWords_23 : decode cX3_scoreWords 23 = .ok (.iload 6, 2) := by decide +kernel
theorem dX3_scoreWords_25 : decode cX3_scoreWords 25 = .ok (.invokevirtual 93, 3) := by decide +kernel
theorem dX3_scoreWords_28 : decode cX3_scoreWords 28 = .ok (.ifCond .eq 22, 3) := by decide +kernel
theorem dX3_scoreWords_31 : decode cX3_scoreWords 31 = .ok (.aload_n 2, 1) := by decide +kernel
theorem dX3_scoreWords_32 : decode cX3_scoreWords 32 = .ok (.aload_n 1, 1) := by decide +kernel
theorem dX3_scoreWords_33 : decode cX3_scoreWords 33 = .ok (.iload 6, 2) := by decide +kernel
theorem dX3_scoreWords_35 : decode cX3_scoreWords 35 = .ok (.invokevirtual 53, 3) := by decide +kernel
theorem dX3_scoreWords_38 : decode cX3_scoreWords 38 = .ok (.checkcast 99, 3) := by decide +kernel
theorem dX3_scoreWords_41 : decode cX3_scoreWords 41 = .ok (.getfield 101, 3) := by decide +kernel
theorem dX3_scoreWords_44 : decode cX3_scoreWords 44 = .ok (.invokevirtual 105, 3) := by decide +kernel
theorem dX3_scoreWords_47 : decode cX3_scoreWords 47 = .ok (.goto 4, 3) := by decide +kernel
theorem dX3_scoreWords_50 : decode cX3_scoreWords 50 = .ok (.iconst 0, 1) := by decide +kernel
theorem dX3_scoreWords_51 : decode cX3_scoreWords 51 = .ok (.invokevirtual 85, 3) := by decide +kernel
theorem dX3_scoreWords_54 : decode cX3_scoreWords 54 = .ok (.aload_n 0, 1) := by decide +kernel
theorem dX3_scoreWords_55 : decode cX3_scoreWords 55 = .ok (.getfield 20, 3) := by decide +kernel
theorem dX3_scoreWords_58 : decode cX3_scoreWords 58 = .ok (.iload 6, 2) := by decide +kernel
theorem dX3_scoreWords_60 : decode cX3_scoreWords 60 = .ok (.invokevirtual 49, 3) := by decide +kernel
theorem dX3_scoreWords_63 : decode cX3_scoreWords 63 = .ok (.ifCond .le 6, 3) := by decide +kernel
theorem dX3_scoreWords_66 : decode cX3_scoreWords 66 = .ok (.iinc 5 1, 3) := by decide +kernel
theorem dX3_scoreWords_69 : decode cX3_scoreWords 69 = .ok (.iinc 6 1, 3) := by decide +kernel
theorem dX3_scoreWords_72 : decode cX3_scoreWords 72 = .ok (.goto (-66), 3) := by decide +kernel
theorem dX3_scoreWords_75 : decode cX3_scoreWords 75 = .ok (.iconst 0, 1) := by decide +kernel
theorem dX3_scoreWords_76 : decode cX3_scoreWords 76 = .ok (.istore 6, 2) := by decide +kernel
theorem dX3_scoreWords_78 : decode cX3_scoreWords 78 = .ok (.iload 6, 2) := by decide +kernel
theorem dX3_scoreWords_80 : decode cX3_scoreWords 80 = .ok (.aload_n 1, 1) := by decide +kernel
theorem dX3_scoreWords_81 : decode cX3_scoreWords 81 = .ok (.invokevirtual 43, 3) := by decide +kernel
theorem dX3_scoreWords_84 : decode cX3_scoreWords 84 = .ok (.if_icmp .ge 78, 3) := by decide +kernel
theorem dX3_scoreWords_87 : decode cX3_scoreWords 87 = .ok (.aload_n 0, 1) := by decide +kernel
theorem dX3_scoreWords_88 : decode cX3_scoreWords 88 = .ok (.getfield 20, 3) := by decide +kernel
theorem dX3_scoreWords_91 : decode cX3_scoreWords 91 = .ok (.iload 6, 2) := by decide +kernel
theorem dX3_scoreWords_93 : decode cX3_scoreWords 93 = .ok (.invokevirtual 49, 3) := by decide +kernel
theorem dX3_scoreWords_96 : decode cX3_scoreWords 96 = .ok (.istore 7, 2) := by decide +kernel
theorem dX3_scoreWords_98 : decode cX3_scoreWords 98 = .ok (.aload_n 1, 1) := by decide +kernel
theorem dX3_scoreWords_99 : decode cX3_scoreWords 99 = .ok (.iload 6, 2) := by decide +kernel
theorem dX3_scoreWords_101 : decode cX3_scoreWords 101 = .ok (.invokevirtual 53, 3) := by decide +kernel
theorem dX3_scoreWords_104 : decode cX3_scoreWords 104 = .ok (.checkcast 99, 3) := by decide +kernel
theorem dX3_scoreWords_107 : decode cX3_scoreWords 107 = .ok (.getfield 101, 3) := by decide +kernel
theorem dX3_scoreWords_110 : decode cX3_scoreWords 110 = .ok (.getfield 109, 3) := by decide +kernel
theorem dX3_scoreWords_113 : decode cX3_scoreWords 113 = .ok (.istore 8, 2) := by decide +kernel
theorem dX3_scoreWords_115 : decode cX3_scoreWords 115 = .ok (.iload 7, 2) := by decide +kernel
theorem dX3_scoreWords_117 : decode cX3_scoreWords 117 = .ok (.ifCond .ne 7, 3) := by decide +kernel
theorem dX3_scoreWords_120 : decode cX3_scoreWords 120 = .ok (.iconst (-1), 1) := by decide +kernel
theorem dX3_scoreWords_121 : decode cX3_scoreWords 121 = .ok (.goto 18, 3) := by decide +kernel
theorem dX3_scoreWords_124 : decode cX3_scoreWords 124 = .ok (.aload_n 2, 1) := by decide +kernel
theorem dX3_scoreWords_125 : decode cX3_scoreWords 125 = .ok (.iload 7, 2) := by decide +kernel
theorem dX3_scoreWords_127 : decode cX3_scoreWords 127 = .ok (.iload 8, 2) := by decide +kernel
theorem dX3_scoreWords_129 : decode cX3_scoreWords 129 = .ok (.aload 4, 2) := by decide +kernel
theorem dX3_scoreWords_131 : decode cX3_scoreWords 131 = .ok (.getfield 114, 3) := by decide +kernel
theorem dX3_scoreWords_134 : decode cX3_scoreWords 134 = .ok (.iload 5, 2) := by decide +kernel
theorem dX3_scoreWords_136 : decode cX3_scoreWords 136 = .ok (.invokevirtual 115, 3) := by decide +kernel
theorem dX3_scoreWords_139 : decode cX3_scoreWords 139 = .ok (.istore 9, 2) := by decide +kernel
theorem dX3_scoreWords_141 : decode cX3_scoreWords 141 = .ok (.aload_n 0, 1) := by decide +kernel
theorem dX3_scoreWords_142 : decode cX3_scoreWords 142 = .ok (.getfield 23, 3) := by decide +kernel
theorem dX3_scoreWords_145 : decode cX3_scoreWords 145 = .ok (.iload_n 3, 1) := by decide +kernel
theorem dX3_scoreWords_146 : decode cX3_scoreWords 146 = .ok (.iload 6, 2) := by decide +kernel
theorem dX3_scoreWords_148 : decode cX3_scoreWords 148 = .ok (.invokestatic 74, 3) := by decide +kernel
theorem dX3_scoreWords_151 : decode cX3_scoreWords 151 = .ok (.iload 9, 2) := by decide +kernel
theorem dX3_scoreWords_153 : decode cX3_scoreWords 153 = .ok (.invokevirtual 85, 3) := by decide +kernel
theorem dX3_scoreWords_156 : decode cX3_scoreWords 156 = .ok (.iinc 6 1, 3) := by decide +kernel
theorem dX3_scoreWords_159 : decode cX3_scoreWords 159 = .ok (.goto (-81), 3) := by decide +kernel
theorem dX3_scoreWords_162 : decode cX3_scoreWords 162 = .ok (.return_, 1) := by decide +kernel
theorem dX3_scoreJoined_0 : decode cX3_scoreJoined 0 = .ok (.iconst 0, 1) := by decide +kernel
theorem dX3_scoreJoined_1 : decode cX3_scoreJoined 1 = .ok (.istore 4, 2) := by decide +kernel
theorem dX3_scoreJoined_3 : decode cX3_scoreJoined 3 = .ok (.iload 4, 2) := by decide +kernel
theorem dX3_scoreJoined_5 : decode cX3_scoreJoined 5 = .ok (.iload_n 1, 1) := by decide +kernel
theorem dX3_scoreJoined_6 : decode cX3_scoreJoined 6 = .ok (.if_icmp .ge 66, 3) := by decide +kernel
theorem dX3_scoreJoined_9 : decode cX3_scoreJoined 9 = .ok (.aload_n 0, 1) := by decide +kernel
theorem dX3_scoreJoined_10 : decode cX3_scoreJoined 10 = .ok (.getfield 23, 3) := by decide +kernel
theorem dX3_scoreJoined_13 : decode cX3_scoreJoined 13 = .ok (.aload_n 2, 1) := by decide +kernel
theorem dX3_scoreJoined_14 : decode cX3_scoreJoined 14 = .ok (.getfield 119, 3) := by decide +kernel
theorem dX3_scoreJoined_17 : decode cX3_scoreJoined 17 = .ok (.iload 4, 2) := by decide +kernel
theorem dX3_scoreJoined_19 : decode cX3_scoreJoined 19 = .ok (.invokestatic 74, 3) := by decide +kernel
theorem dX3_scoreJoined_22 : decode cX3_scoreJoined 22 = .ok (.invokevirtual 49, 3) := by decide +kernel
theorem dX3_scoreJoined_25 : decode cX3_scoreJoined 25 = .ok (.istore 5, 2) := by decide +kernel
theorem dX3_scoreJoined_27 : decode cX3_scoreJoined 27 = .ok (.aload_n 0, 1) := by decide +kernel
theorem dX3_scoreJoined_28 : decode cX3_scoreJoined 28 = .ok (.getfield 23, 3) := by decide +kernel
theorem dX3_scoreJoined_31 : decode cX3_scoreJoined 31 = .ok (.aload_n 2, 1) := by decide +kernel
theorem dX3_scoreJoined_32 : decode cX3_scoreJoined 32 = .ok (.getfield 122, 3) := by decide +kernel
theorem dX3_scoreJoined_35 : decode cX3_scoreJoined 35 = .ok (.iload 4, 2) := by decide +kernel
theorem dX3_scoreJoined_37 : decode cX3_scoreJoined 37 = .ok (.invokestatic 74, 3) := by decide +kernel
theorem dX3_scoreJoined_40 : decode cX3_scoreJoined 40 = .ok (.invokevirtual 49, 3) := by decide +kernel
theorem dX3_scoreJoined_43 : decode cX3_scoreJoined 43 = .ok (.istore 6, 2) := by decide +kernel
theorem dX3_scoreJoined_45 : decode cX3_scoreJoined 45 = .ok (.aload_n 0, 1) := by decide +kernel
theorem dX3_scoreJoined_46 : decode cX3_scoreJoined 46 = .ok (.getfield 23, 3) := by decide +kernel
theorem dX3_scoreJoined_49 : decode cX3_scoreJoined 49 = .ok (.iload_n 3, 1) := by decide +kernel
theorem dX3_scoreJoined_50 : decode cX3_scoreJoined 50 = .ok (.iload 4, 2) := by decide +kernel
theorem dX3_scoreJoined_52 : decode cX3_scoreJoined 52 = .ok (.invokestatic 74, 3) := by decide +kernel
theorem dX3_scoreJoined_55 : decode cX3_scoreJoined 55 = .ok (.aload_n 2, 1) := by decide +kernel
theorem dX3_scoreJoined_56 : decode cX3_scoreJoined 56 = .ok (.iload 5, 2) := by decide +kernel
theorem dX3_scoreJoined_58 : decode cX3_scoreJoined 58 = .ok (.iload 6, 2) := by decide +kernel
theorem dX3_scoreJoined_60 : decode cX3_scoreJoined 60 = .ok (.invokevirtual 125, 3) := by decide +kernel
theorem dX3_scoreJoined_63 : decode cX3_scoreJoined 63 = .ok (.invokevirtual 85, 3) := by decide +kernel
theorem dX3_scoreJoined_66 : decode cX3_scoreJoined 66 = .ok (.iinc 4 1, 3) := by decide +kernel
theorem dX3_scoreJoined_69 : decode cX3_scoreJoined 69 = .ok (.goto (-66), 3) := by decide +kernel
theorem dX3_scoreJoined_72 : decode cX3_scoreJoined 72 = .ok (.return_, 1) := by decide +kernel
theorem dX3_cell_0 : decode cX3_cell 0 = .ok (.iload_n 0, 1) := by decide +kernel
theorem dX3_cell_1 : decode cX3_cell 1 = .ok (.bipush 30, 2) := by decide +kernel
theorem dX3_cell_3 : decode cX3_cell 3 = .ok (.imul, 1) := by decide +kernel
theorem dX3_cell_4 : decode cX3_cell 4 = .ok (.iload_n 1, 1) := by decide +kernel
theorem dX3_cell_5 : decode cX3_cell 5 = .ok (.iadd, 1) := by decide +kernel
theorem dX3_cell_6 : decode cX3_cell 6 = .ok (.ireturn, 1) := by decide +kernel
theorem dX3_orderHits_0 : decode cX3_orderHits 0 = .ok (.aload_n 0, 1) := by decide +kernel
theorem dX3_orderHits_1 : decode cX3_orderHits 1 = .ok (.iconst 0, 1) := by decide +kernel
theorem dX3_orderHits_2 : decode cX3_orderHits 2 = .ok (.putfield 128, 3) := by decide +kernel
theorem dX3_orderHits_5 : decode cX3_orderHits 5 = .ok (.iconst 0, 1) := by decide +kernel
theorem dX3_orderHits_6 : decode cX3_orderHits 6 = .ok (.istore_n 3, 1) := by decide +kernel
theorem dX3_orderHits_7 : decode cX3_orderHits 7 = .ok (.iload_n 3, 1) := by decide +kernel
theorem dX3_orderHits_8 : decode cX3_orderHits 8 = .ok (.aload_n 1, 1) := by decide +kernel
theorem dX3_orderHits_9 : decode cX3_orderHits 9 = .ok (.invokevirtual 43, 3) := by decide +kernel
theorem dX3_orderHits_12 : decode cX3_orderHits 12 = .ok (.if_icmp .ge 65, 3) := by decide +kernel
theorem dX3_orderHits_15 : decode cX3_orderHits 15 = .ok (.aload_n 0, 1) := by decide +kernel
theorem dX3_orderHits_16 : decode cX3_orderHits 16 = .ok (.iload_n 3, 1) := by decide +kernel
theorem dX3_orderHits_17 : decode cX3_orderHits 17 = .ok (.invokevirtual 131, 3) := by decide +kernel
theorem dX3_orderHits_20 : decode cX3_orderHits 20 = .ok (.iconst (-1), 1) := by decide +kernel
theorem dX3_orderHits_21 : decode cX3_orderHits 21 = .ok (.if_icmp .ne 6, 3) := by decide +kernel
theorem dX3_orderHits_24 : decode cX3_orderHits 24 = .ok (.goto 47, 3) := by decide +kernel
theorem dX3_orderHits_27 : decode cX3_orderHits 27 = .ok (.aload_n 1, 1) := by decide +kernel
theorem dX3_orderHits_28 : decode cX3_orderHits 28 = .ok (.iload_n 3, 1) := by decide +kernel
theorem dX3_orderHits_29 : decode cX3_orderHits 29 = .ok (.invokevirtual 53, 3) := by decide +kernel
theorem dX3_orderHits_32 : decode cX3_orderHits 32 = .ok (.checkcast 99, 3) := by decide +kernel
theorem dX3_orderHits_35 : decode cX3_orderHits 35 = .ok (.getfield 134, 3) := by decide +kernel
theorem dX3_orderHits_38 : decode cX3_orderHits 38 = .ok (.istore 4, 2) := by decide +kernel
theorem dX3_orderHits_40 : decode cX3_orderHits 40 = .ok (.aload_n 0, 1) := by decide +kernel
theorem dX3_orderHits_41 : decode cX3_orderHits 41 = .ok (.getfield 26, 3) := by decide +kernel
theorem dX3_orderHits_44 : decode cX3_orderHits 44 = .ok (.iload_n 3, 1) := by decide +kernel
theorem dX3_orderHits_45 : decode cX3_orderHits 45 = .ok (.aload_n 0, 1) := by decide +kernel
theorem dX3_orderHits_46 : decode cX3_orderHits 46 = .ok (.iload_n 3, 1) := by decide +kernel
theorem dX3_orderHits_47 : decode cX3_orderHits 47 = .ok (.invokevirtual 131, 3) := by decide +kernel
theorem dX3_orderHits_50 : decode cX3_orderHits 50 = .ok (.iload 4, 2) := by decide +kernel
theorem dX3_orderHits_52 : decode cX3_orderHits 52 = .ok (.iload_n 2, 1) := by decide +kernel
theorem dX3_orderHits_53 : decode cX3_orderHits 53 = .ok (.if_icmp .ge 8, 3) := by decide +kernel
theorem dX3_orderHits_56 : decode cX3_orderHits 56 = .ok (.iload 4, 2) := by decide +kernel
theorem dX3_orderHits_58 : decode cX3_orderHits 58 = .ok (.goto 4, 3) := by decide +kernel
theorem dX3_orderHits_61 : decode cX3_orderHits 61 = .ok (.iload_n 2, 1) := by decide +kernel
theorem dX3_orderHits_62 : decode cX3_orderHits 62 = .ok (.iadd, 1) := by decide +kernel
theorem dX3_orderHits_63 : decode cX3_orderHits 63 = .ok (.invokevirtual 85, 3) := by decide +kernel
theorem dX3_orderHits_66 : decode cX3_orderHits 66 = .ok (.aload_n 0, 1) := by decide +kernel
theorem dX3_orderHits_67 : decode cX3_orderHits 67 = .ok (.iload_n 3, 1) := by decide +kernel
theorem dX3_orderHits_68 : decode cX3_orderHits 68 = .ok (.invokevirtual 137, 3) := by decide +kernel
theorem dX3_orderHits_71 : decode cX3_orderHits 71 = .ok (.iinc 3 1, 3) := by decide +kernel
theorem dX3_orderHits_74 : decode cX3_orderHits 74 = .ok (.goto (-67), 3) := by decide +kernel
theorem dX3_orderHits_77 : decode cX3_orderHits 77 = .ok (.return_, 1) := by decide +kernel
theorem dX3_putInOrder_0 : decode cX3_putInOrder 0 = .ok (.aload_n 0, 1) := by decide +kernel
theorem dX3_putInOrder_1 : decode cX3_putInOrder 1 = .ok (.getfield 128, 3) := by decide +kernel
theorem dX3_putInOrder_4 : decode cX3_putInOrder 4 = .ok (.istore_n 2, 1) := by decide +kernel
theorem dX3_putInOrder_5 : decode cX3_putInOrder 5 = .ok (.iload_n 2, 1) := by decide +kernel
theorem dX3_putInOrder_6 : decode cX3_putInOrder 6 = .ok (.ifCond .le 55, 3) := by decide +kernel
theorem dX3_putInOrder_9 : decode cX3_putInOrder 9 = .ok (.aload_n 0, 1) := by decide +kernel
theorem dX3_putInOrder_10 : decode cX3_putInOrder 10 = .ok (.getfield 26, 3) := by decide +kernel
theorem dX3_putInOrder_13 : decode cX3_putInOrder 13 = .ok (.aload_n 0, 1) := by decide +kernel
theorem dX3_putInOrder_14 : decode cX3_putInOrder 14 = .ok (.getfield 29, 3) := by decide +kernel
theorem dX3_putInOrder_17 : decode cX3_putInOrder 17 = .ok (.iload_n 2, 1) := by decide +kernel
theorem dX3_putInOrder_18 : decode cX3_putInOrder 18 = .ok (.iconst 1, 1) := by decide +kernel
theorem dX3_putInOrder_19 : decode cX3_putInOrder 19 = .ok (.isub, 1) := by decide +kernel
theorem dX3_putInOrder_20 : decode cX3_putInOrder 20 = .ok (.invokevirtual 49, 3) := by decide +kernel
theorem dX3_putInOrder_23 : decode cX3_putInOrder 23 = .ok (.invokevirtual 49, 3) := by decide +kernel
theorem dX3_putInOrder_26 : decode cX3_putInOrder 26 = .ok (.aload_n 0, 1) := by decide +kernel
theorem dX3_putInOrder_27 : decode cX3_putInOrder 27 = .ok (.getfield 26, 3) := by decide +kernel
theorem dX3_putInOrder_30 : decode cX3_putInOrder 30 = .ok (.iload_n 1, 1) := by decide +kernel
theorem dX3_putInOrder_31 : decode cX3_putInOrder 31 = .ok (.invokevirtual 49, 3) := by decide +kernel
theorem dX3_putInOrder_34 : decode cX3_putInOrder 34 = .ok (.if_icmp .ge 27, 3) := by decide +kernel
theorem dX3_putInOrder_37 : decode cX3_putInOrder 37 = .ok (.aload_n 0, 1) := by decide +kernel
theorem dX3_putInOrder_38 : decode cX3_putInOrder 38 = .ok (.getfield 29, 3) := by decide +kernel
theorem dX3_putInOrder_41 : decode cX3_putInOrder 41 = .ok (.iload_n 2, 1) := by decide +kernel
theorem dX3_putInOrder_42 : decode cX3_putInOrder 42 = .ok (.aload_n 0, 1) := by decide +kernel
theorem dX3_putInOrder_43 : decode cX3_putInOrder 43 = .ok (.getfield 29, 3) := by decide +kernel
theorem dX3_putInOrder_46 : decode cX3_putInOrder 46 = .ok (.iload_n 2, 1) := by decide +kernel
theorem dX3_putInOrder_47 : decode cX3_putInOrder 47 = .ok (.iconst 1, 1) := by decide +kernel
theorem dX3_putInOrder_48 : decode cX3_putInOrder 48 = .ok (.isub, 1) := by decide +kernel
theorem dX3_putInOrder_49 : decode cX3_putInOrder 49 = .ok (.invokevirtual 49, 3) := by decide +kernel
theorem dX3_putInOrder_52 : decode cX3_putInOrder 52 = .ok (.invokevirtual 85, 3) := by decide +kernel
theorem dX3_putInOrder_55 : decode cX3_putInOrder 55 = .ok (.iinc 2 (-1), 3) := by decide +kernel
theorem dX3_putInOrder_58 : decode cX3_putInOrder 58 = .ok (.goto (-53), 3) := by decide +kernel
theorem dX3_putInOrder_61 : decode cX3_putInOrder 61 = .ok (.aload_n 0, 1) := by decide +kernel
theorem dX3_putInOrder_62 : decode cX3_putInOrder 62 = .ok (.getfield 29, 3) := by decide +kernel
theorem dX3_putInOrder_65 : decode cX3_putInOrder 65 = .ok (.iload_n 2, 1) := by decide +kernel
theorem dX3_putInOrder_66 : decode cX3_putInOrder 66 = .ok (.iload_n 1, 1) := by decide +kernel
theorem dX3_putInOrder_67 : decode cX3_putInOrder 67 = .ok (.invokevirtual 85, 3) := by decide +kernel
theorem dX3_putInOrder_70 : decode cX3_putInOrder 70 = .ok (.aload_n 0, 1) := by decide +kernel
theorem dX3_putInOrder_71 : decode cX3_putInOrder 71 = .ok (.dup, 1) := by decide +kernel
theorem dX3_putInOrder_72 : decode cX3_putInOrder 72 = .ok (.getfield 128, 3) := by decide +kernel
theorem dX3_putInOrder_75 : decode cX3_putInOrder 75 = .ok (.iconst 1, 1) := by decide +kernel
theorem dX3_putInOrder_76 : decode cX3_putInOrder 76 = .ok (.iadd, 1) := by decide +kernel
theorem dX3_putInOrder_77 : decode cX3_putInOrder 77 = .ok (.putfield 128, 3) := by decide +kernel
theorem dX3_putInOrder_80 : decode cX3_putInOrder 80 = .ok (.return_, 1) := by decide +kernel
theorem dX4_init_0 : decode cX4_init 0 = .ok (.aload_n 0, 1) := by decide +kernel
theorem dX4_init_1 : decode cX4_init 1 = .ok (.invokespecial 3, 3) := by decide +kernel
theorem dX4_init_4 : decode cX4_init 4 = .ok (.aload_n 0, 1) := by decide +kernel
theorem dX4_init_5 : decode cX4_init 5 = .ok (.new 9, 3) := by decide +kernel
theorem dX4_init_8 : decode cX4_init 8 = .ok (.dup, 1) := by decide +kernel
theorem dX4_init_9 : decode cX4_init 9 = .ok (.bipush 30, 2) := by decide +kernel
theorem dX4_init_11 : decode cX4_init 11 = .ok (.invokespecial 11, 3) := by decide +kernel
theorem dX4_init_14 : decode cX4_init 14 = .ok (.putfield 14, 3) := by decide +kernel
theorem dX4_init_17 : decode cX4_init 17 = .ok (.aload_n 0, 1) := by decide +kernel
theorem dX4_init_18 : decode cX4_init 18 = .ok (.new 9, 3) := by decide +kernel
theorem dX4_init_21 : decode cX4_init 21 = .ok (.dup, 1) := by decide +kernel
theorem dX4_init_22 : decode cX4_init 22 = .ok (.bipush 30, 2) := by decide +kernel
theorem dX4_init_24 : decode cX4_init 24 = .ok (.invokespecial 11, 3) := by decide +kernel
theorem dX4_init_27 : decode cX4_init 27 = .ok (.putfield 20, 3) := by decide +kernel
theorem dX4_init_30 : decode cX4_init 30 = .ok (.return_, 1) := by decide +kernel
theorem dX4_addToBuffer_0 : decode cX4_addToBuffer 0 = .ok (.aload_n 0, 1) := by decide +kernel
theorem dX4_addToBuffer_1 : decode cX4_addToBuffer 1 = .ok (.getfield 14, 3) := by decide +kernel
theorem dX4_addToBuffer_4 : decode cX4_addToBuffer 4 = .ok (.aload_n 0, 1) := by decide +kernel
theorem dX4_addToBuffer_5 : decode cX4_addToBuffer 5 = .ok (.getfield 23, 3) := by decide +kernel
theorem dX4_addToBuffer_8 : decode cX4_addToBuffer 8 = .ok (.bipush 98, 2) := by decide +kernel
theorem dX4_addToBuffer_10 : decode cX4_addToBuffer 10 = .ok (.invokevirtual 27, 3) := by decide +kernel
theorem dX4_addToBuffer_13 : decode cX4_addToBuffer 13 = .ok (.aload_n 0, 1) := by decide +kernel
theorem dX4_addToBuffer_14 : decode cX4_addToBuffer 14 = .ok (.getfield 20, 3) := by decide +kernel
theorem dX4_addToBuffer_17 : decode cX4_addToBuffer 17 = .ok (.aload_n 0, 1) := by decide +kernel
theorem dX4_addToBuffer_18 : decode cX4_addToBuffer 18 = .ok (.getfield 23, 3) := by decide +kernel
theorem dX4_addToBuffer_21 : decode cX4_addToBuffer 21 = .ok (.iconst (-1), 1) := by decide +kernel
theorem dX4_addToBuffer_22 : decode cX4_addToBuffer 22 = .ok (.invokevirtual 27, 3) := by decide +kernel
theorem dX4_addToBuffer_25 : decode cX4_addToBuffer 25 = .ok (.aload_n 0, 1) := by decide +kernel
theorem dX4_addToBuffer_26 : decode cX4_addToBuffer 26 = .ok (.dup, 1) := by decide +kernel
theorem dX4_addToBuffer_27 : decode cX4_addToBuffer 27 = .ok (.getfield 23, 3) := by decide +kernel
theorem dX4_addToBuffer_30 : decode cX4_addToBuffer 30 = .ok (.iconst 1, 1) := by decide +kernel
theorem dX4_addToBuffer_31 : decode cX4_addToBuffer 31 = .ok (.iadd, 1) := by decide +kernel
theorem dX4_addToBuffer_32 : decode cX4_addToBuffer 32 = .ok (.putfield 23, 3) := by decide +kernel
theorem dX4_addToBuffer_35 : decode cX4_addToBuffer 35 = .ok (.return_, 1) := by decide +kernel
theorem dX4_stateOf_0 : decode cX4_stateOf 0 = .ok (.aload_n 0, 1) := by decide +kernel
theorem dX4_stateOf_1 : decode cX4_stateOf 1 = .ok (.getfield 14, 3) := by decide +kernel
theorem dX4_stateOf_4 : decode cX4_stateOf 4 = .ok (.iload_n 1, 1) := by decide +kernel
theorem dX4_stateOf_5 : decode cX4_stateOf 5 = .ok (.invokevirtual 31, 3) := by decide +kernel
theorem dX4_stateOf_8 : decode cX4_stateOf 8 = .ok (.i2c, 1) := by decide +kernel
theorem dX4_stateOf_9 : decode cX4_stateOf 9 = .ok (.ireturn, 1) := by decide +kernel
theorem dX4_lives_0 : decode cX4_lives 0 = .ok (.aload_n 0, 1) := by decide +kernel
theorem dX4_lives_1 : decode cX4_lives 1 = .ok (.iload_n 1, 1) := by decide +kernel
theorem dX4_lives_2 : decode cX4_lives 2 = .ok (.invokevirtual 35, 3) := by decide +kernel
theorem dX4_lives_5 : decode cX4_lives 5 = .ok (.bipush 98, 2) := by decide +kernel
theorem dX4_lives_7 : decode cX4_lives 7 = .ok (.if_icmp .eq 13, 3) := by decide +kernel
theorem dX4_lives_10 : decode cX4_lives 10 = .ok (.aload_n 0, 1) := by decide +kernel
theorem dX4_lives_11 : decode cX4_lives 11 = .ok (.iload_n 1, 1) := by decide +kernel
theorem dX4_lives_12 : decode cX4_lives 12 = .ok (.invokevirtual 35, 3) := by decide +kernel
theorem dX4_lives_15 : decode cX4_lives 15 = .ok (.bipush 115, 2) := by decide +kernel
theorem dX4_lives_17 : decode cX4_lives 17 = .ok (.if_icmp .ne 7, 3) := by decide +kernel
theorem dX4_lives_20 : decode cX4_lives 20 = .ok (.iconst 1, 1) := by decide +kernel
theorem dX4_lives_21 : decode cX4_lives 21 = .ok (.goto 4, 3) := by decide +kernel
theorem dX4_lives_24 : decode cX4_lives 24 = .ok (.iconst 0, 1) := by decide +kernel
theorem dX4_lives_25 : decode cX4_lives 25 = .ok (.ireturn, 1) := by decide +kernel
theorem dX4_takeOut_0 : decode cX4_takeOut 0 = .ok (.aload_n 0, 1) := by decide +kernel
theorem dX4_takeOut_1 : decode cX4_takeOut 1 = .ok (.getfield 14, 3) := by decide +kernel
theorem dX4_takeOut_4 : decode cX4_takeOut 4 = .ok (.iload_n 1, 1) := by decide +kernel
theorem dX4_takeOut_5 : decode cX4_takeOut 5 = .ok (.bipush 114, 2) := by decide +kernel
theorem dX4_takeOut_7 : decode cX4_takeOut 7 = .ok (.invokevirtual 27, 3) := by decide +kernel
theorem dX4_takeOut_10 : decode cX4_takeOut 10 = .ok (.return_, 1) := by decide +kernel
theorem dX4_writeBuffer_0 : decode cX4_writeBuffer 0 = .ok (.iconst 0, 1) := by decide +kernel
theorem dX4_writeBuffer_1 : decode cX4_writeBuffer 1 = .ok (.istore_n 1, 1) := by decide +kernel
theorem dX4_writeBuffer_2 : decode cX4_writeBuffer 2 = .ok (.iconst 0, 1) := by decide +kernel
theorem dX4_writeBuffer_3 : decode cX4_writeBuffer 3 = .ok (.istore_n 2, 1) := by decide +kernel
theorem dX4_writeBuffer_4 : decode cX4_writeBuffer 4 = .ok (.iload_n 2, 1) := by decide +kernel
theorem dX4_writeBuffer_5 : decode cX4_writeBuffer 5 = .ok (.aload_n 0, 1) := by decide +kernel
theorem dX4_writeBuffer_6 : decode cX4_writeBuffer 6 = .ok (.getfield 23, 3) := by decide +kernel
theorem dX4_writeBuffer_9 : decode cX4_writeBuffer 9 = .ok (.if_icmp .ge 47, 3) := by decide +kernel
theorem dX4_writeBuffer_12 : decode cX4_writeBuffer 12 = .ok (.aload_n 0, 1) := by decide +kernel
theorem dX4_writeBuffer_13 : decode cX4_writeBuffer 13 = .ok (.iload_n 2, 1) := by decide +kernel
theorem dX4_writeBuffer_14 : decode cX4_writeBuffer 14 = .ok (.invokevirtual 35, 3) := by decide +kernel
theorem dX4_writeBuffer_17 : decode cX4_writeBuffer 17 = .ok (.bipush 98, 2) := by decide +kernel
theorem dX4_writeBuffer_19 : decode cX4_writeBuffer 19 = .ok (.if_icmp .eq 6, 3) := by decide +kernel
theorem dX4_writeBuffer_22 : decode cX4_writeBuffer 22 = .ok (.goto 28, 3) := by decide +kernel
theorem dX4_writeBuffer_25 : decode cX4_writeBuffer 25 = .ok (.aload_n 0, 1) := by decide +kernel
theorem dX4_writeBuffer_26 : decode cX4_writeBuffer 26 = .ok (.getfield 14, 3) := by decide +kernel
theorem dX4_writeBuffer_29 : decode cX4_writeBuffer 29 = .ok (.iload_n 2, 1) := by decide +kernel
theorem dX4_writeBuffer_30 : decode cX4_writeBuffer 30 = .ok (.bipush 115, 2) := by decide +kernel
theorem dX4_writeBuffer_32 : decode cX4_writeBuffer 32 = .ok (.invokevirtual 27, 3) := by decide +kernel
theorem dX4_writeBuffer_35 : decode cX4_writeBuffer 35 = .ok (.aload_n 0, 1) := by decide +kernel
theorem dX4_writeBuffer_36 : decode cX4_writeBuffer 36 = .ok (.getfield 20, 3) := by decide +kernel
theorem dX4_writeBuffer_39 : decode cX4_writeBuffer 39 = .ok (.iload_n 2, 1) := by decide +kernel
theorem dX4_writeBuffer_40 : decode cX4_writeBuffer 40 = .ok (.aload_n 0, 1) := by decide +kernel
theorem dX4_writeBuffer_41 : decode cX4_writeBuffer 41 = .ok (.getfield 39, 3) := by decide +kernel
theorem dX4_writeBuffer_44 : decode cX4_writeBuffer 44 = .ok (.invokevirtual 27, 3) := by decide +kernel
theorem dX4_writeBuffer_47 : decode cX4_writeBuffer 47 = .ok (.iinc 1 1, 3) := by decide +kernel
theorem dX4_writeBuffer_50 : decode cX4_writeBuffer 50 = .ok (.iinc 2 1, 3) := by decide +kernel
theorem dX4_writeBuffer_53 : decode cX4_writeBuffer 53 = .ok (.goto (-49), 3) := by decide +kernel
theorem dX4_writeBuffer_56 : decode cX4_writeBuffer 56 = .ok (.iload_n 1, 1) := by decide +kernel
theorem dX4_writeBuffer_57 : decode cX4_writeBuffer 57 = .ok (.ifCond .le 13, 3) := by decide +kernel
theorem dX4_writeBuffer_60 : decode cX4_writeBuffer 60 = .ok (.aload_n 0, 1) := by decide +kernel
theorem dX4_writeBuffer_61 : decode cX4_writeBuffer 61 = .ok (.dup, 1) := by decide +kernel
theorem dX4_writeBuffer_62 : decode cX4_writeBuffer 62 = .ok (.getfield 39, 3) := by decide +kernel
theorem dX4_writeBuffer_65 : decode cX4_writeBuffer 65 = .ok (.iconst 1, 1) := by decide +kernel
theorem dX4_writeBuffer_66 : decode cX4_writeBuffer 66 = .ok (.iadd, 1) := by decide +kernel
theorem dX4_writeBuffer_67 : decode cX4_writeBuffer 67 = .ok (.putfield 39, 3) := by decide +kernel
theorem dX4_writeBuffer_70 : decode cX4_writeBuffer 70 = .ok (.iload_n 1, 1) := by decide +kernel
theorem dX4_writeBuffer_71 : decode cX4_writeBuffer 71 = .ok (.ireturn, 1) := by decide +kernel
theorem dX4_hasSegment_0 : decode cX4_hasSegment 0 = .ok (.iload_n 1, 1) := by decide +kernel
theorem dX4_hasSegment_1 : decode cX4_hasSegment 1 = .ok (.ifCond .lt 15, 3) := by decide +kernel
theorem dX4_hasSegment_4 : decode cX4_hasSegment 4 = .ok (.iload_n 1, 1) := by decide +kernel
theorem dX4_hasSegment_5 : decode cX4_hasSegment 5 = .ok (.aload_n 0, 1) := by decide +kernel
theorem dX4_hasSegment_6 : decode cX4_hasSegment 6 = .ok (.getfield 39, 3) := by decide +kernel
theorem dX4_hasSegment_9 : decode cX4_hasSegment 9 = .ok (.if_icmp .ge 7, 3) := by decide +kernel
theorem dX4_hasSegment_12 : decode cX4_hasSegment 12 = .ok (.iconst 1, 1) := by decide +kernel
theorem dX4_hasSegment_13 : decode cX4_hasSegment 13 = .ok (.goto 4, 3) := by decide +kernel
theorem dX4_hasSegment_16 : decode cX4_hasSegment 16 = .ok (.iconst 0, 1) := by decide +kernel
theorem dX4_hasSegment_17 : decode cX4_hasSegment 17 = .ok (.ireturn, 1) := by decide +kernel
theorem dX4_documentsIn_0 : decode cX4_documentsIn 0 = .ok (.iconst 0, 1) := by decide +kernel
theorem dX4_documentsIn_1 : decode cX4_documentsIn 1 = .ok (.istore_n 2, 1) := by decide +kernel
theorem dX4_documentsIn_2 : decode cX4_documentsIn 2 = .ok (.iconst 0, 1) := by decide +kernel
theorem dX4_documentsIn_3 : decode cX4_documentsIn 3 = .ok (.istore_n 3, 1) := by decide +kernel
theorem dX4_documentsIn_4 : decode cX4_documentsIn 4 = .ok (.iload_n 3, 1) := by decide +kernel
theorem dX4_documentsIn_5 : decode cX4_documentsIn 5 = .ok (.aload_n 0, 1) := by decide +kernel
theorem dX4_documentsIn_6 : decode cX4_documentsIn 6 = .ok (.getfield 23, 3) := by decide +kernel
theorem dX4_documentsIn_9 : decode cX4_documentsIn 9 = .ok (.if_icmp .ge 24, 3) := by decide +kernel
theorem dX4_documentsIn_12 : decode cX4_documentsIn 12 = .ok (.aload_n 0, 1) := by decide +kernel
theorem dX4_documentsIn_13 : decode cX4_documentsIn 13 = .ok (.getfield 20, 3) := by decide +kernel
theorem dX4_documentsIn_16 : decode cX4_documentsIn 16 = .ok (.iload_n 3, 1) := by decide +kernel
theorem dX4_documentsIn_17 : decode cX4_documentsIn 17 = .ok (.invokevirtual 31, 3) := by decide +kernel
theorem dX4_documentsIn_20 : decode cX4_documentsIn 20 = .ok (.iload_n 1, 1) := by decide +kernel
theorem dX4_documentsIn_21 : decode cX4_documentsIn 21 = .ok (.if_icmp .ne 6, 3) := by decide +kernel
theorem dX4_documentsIn_24 : decode cX4_documentsIn 24 = .ok (.iinc 2 1, 3) := by decide +kernel
theorem dX4_documentsIn_27 : decode cX4_documentsIn 27 = .ok (.iinc 3 1, 3) := by decide +kernel
theorem dX4_documentsIn_30 : decode cX4_documentsIn 30 = .ok (.goto (-26), 3) := by decide +kernel
theorem dX4_documentsIn_33 : decode cX4_documentsIn 33 = .ok (.iload_n 2, 1) := by decide +kernel
theorem dX4_documentsIn_34 : decode cX4_documentsIn 34 = .ok (.ireturn, 1) := by decide +kernel
theorem dX4_mergeWithNext_0 : decode cX4_mergeWithNext 0 = .ok (.iconst 0, 1) := by decide +kernel
theorem dX4_mergeWithNext_1 : decode cX4_mergeWithNext 1 = .ok (.istore_n 2, 1) := by decide +kernel
theorem dX4_mergeWithNext_2 : decode cX4_mergeWithNext 2 = .ok (.iconst 0, 1) := by decide +kernel
theorem dX4_mergeWithNext_3 : decode cX4_mergeWithNext 3 = .ok (.istore_n 3, 1) := by decide +kernel
theorem dX4_mergeWithNext_4 : decode cX4_mergeWithNext 4 = .ok (.iconst 0, 1) := by decide +kernel
theorem dX4_mergeWithNext_5 : decode cX4_mergeWithNext 5 = .ok (.istore 4, 2) := by decide +kernel
theorem dX4_mergeWithNext_7 : decode cX4_mergeWithNext 7 = .ok (.iload 4, 2) := by decide +kernel
theorem dX4_mergeWithNext_9 : decode cX4_mergeWithNext 9 = .ok (.aload_n 0, 1) := by decide +kernel
theorem dX4_mergeWithNext_10 : decode cX4_mergeWithNext 10 = .ok (.getfield 23, 3) := by decide +kernel
theorem dX4_mergeWithNext_13 : decode cX4_mergeWithNext 13 = .ok (.if_icmp .ge 77, 3) := by decide +kernel
theorem dX4_mergeWithNext_16 : decode cX4_mergeWithNext 16 = .ok (.aload_n 0, 1) := by decide +kernel
theorem dX4_mergeWithNext_17 : decode cX4_mergeWithNext 17 = .ok (.getfield 20, 3) := by decide +kernel
theorem dX4_mergeWithNext_20 : decode cX4_mergeWithNext 20 = .ok (.iload 4, 2) := by decide +kernel
theorem dX4_mergeWithNext_22 : decode cX4_mergeWithNext 22 = .ok (.invokevirtual 31, 3) := by decide +kernel
theorem dX4_mergeWithNext_25 : decode cX4_mergeWithNext 25 = .ok (.istore 5, 2) := by decide +kernel
theorem dX4_mergeWithNext_27 : decode cX4_mergeWithNext 27 = .ok (.iload 5, 2) := by decide +kernel
theorem dX4_mergeWithNext_29 : decode cX4_mergeWithNext 29 = .ok (.iload_n 1, 1) := by decide +kernel
theorem dX4_mergeWithNext_30 : decode cX4_mergeWithNext 30 = .ok (.if_icmp .eq 14, 3) := by decide +kernel
theorem dX4_mergeWithNext_33 : decode cX4_mergeWithNext 33 = .ok (.iload 5, 2) := by decide +kernel
theorem dX4_mergeWithNext_35 : decode cX4_mergeWithNext 35 = .ok (.iload_n 1, 1) := by decide +kernel
theorem dX4_mergeWithNext_36 : decode cX4_mergeWithNext 36 = .ok (.iconst 1, 1) := by decide +kernel
theorem dX4_mergeWithNext_37 : decode cX4_mergeWithNext 37 = .ok (.iadd, 1) := by decide +kernel
theorem dX4_mergeWithNext_38 : decode cX4_mergeWithNext 38 = .ok (.if_icmp .eq 6, 3) := by decide +kernel
theorem dX4_mergeWithNext_41 : decode cX4_mergeWithNext 41 = .ok (.goto 43, 3) := by decide +kernel
theorem dX4_mergeWithNext_44 : decode cX4_mergeWithNext 44 = .ok (.aload_n 0, 1) := by decide +kernel
theorem dX4_mergeWithNext_45 : decode cX4_mergeWithNext 45 = .ok (.iload 4, 2) := by decide +kernel
theorem dX4_mergeWithNext_47 : decode cX4_mergeWithNext 47 = .ok (.invokevirtual 35, 3) := by decide +kernel
theorem dX4_mergeWithNext_50 : decode cX4_mergeWithNext 50 = .ok (.bipush 114, 2) := by decide +kernel
theorem dX4_mergeWithNext_52 : decode cX4_mergeWithNext 52 = .ok (.if_icmp .ne 19, 3) := by decide +kernel
theorem dX4_mergeWithNext_55 : decode cX4_mergeWithNext 55 = .ok (.aload_n 0, 1) := by decide +kernel
theorem dX4_mergeWithNext_56 : decode cX4_mergeWithNext 56 = .ok (.getfield 20, 3) := by decide +kernel
theorem dX4_mergeWithNext_59 : decode cX4_mergeWithNext 59 = .ok (.iload 4, 2) := by decide +kernel
theorem dX4_mergeWithNext_61 : decode cX4_mergeWithNext 61 = .ok (.iconst (-1), 1) := by decide +kernel
theorem dX4_mergeWithNext_62 : decode cX4_mergeWithNext 62 = .ok (.invokevirtual 27, 3) := by decide +kernel
theorem dX4_mergeWithNext_65 : decode cX4_mergeWithNext 65 = .ok (.iinc 2 1, 3) := by decide +kernel
theorem dX4_mergeWithNext_68 : decode cX4_mergeWithNext 68 = .ok (.goto 16, 3) := by decide +kernel
theorem dX4_mergeWithNext_71 : decode cX4_mergeWithNext 71 = .ok (.aload_n 0, 1) := by decide +kernel
theorem dX4_mergeWithNext_72 : decode cX4_mergeWithNext 72 = .ok (.getfield 20, 3) := by decide +kernel
theorem dX4_mergeWithNext_75 : decode cX4_mergeWithNext 75 = .ok (.iload 4, 2) := by decide +kernel
theorem dX4_mergeWithNext_77 : decode cX4_mergeWithNext 77 = .ok (.iload_n 1, 1) := by decide +kernel
theorem dX4_mergeWithNext_78 : decode cX4_mergeWithNext 78 = .ok (.invokevirtual 27, 3) := by decide +kernel
theorem dX4_mergeWithNext_81 : decode cX4_mergeWithNext 81 = .ok (.iinc 3 1, 3) := by decide +kernel
theorem dX4_mergeWithNext_84 : decode cX4_mergeWithNext 84 = .ok (.iinc 4 1, 3) := by decide +kernel
theorem dX4_mergeWithNext_87 : decode cX4_mergeWithNext 87 = .ok (.goto (-80), 3) := by decide +kernel
theorem dX4_mergeWithNext_90 : decode cX4_mergeWithNext 90 = .ok (.aload_n 0, 1) := by decide +kernel
theorem dX4_mergeWithNext_91 : decode cX4_mergeWithNext 91 = .ok (.iload_n 1, 1) := by decide +kernel
theorem dX4_mergeWithNext_92 : decode cX4_mergeWithNext 92 = .ok (.iconst 1, 1) := by decide +kernel
theorem dX4_mergeWithNext_93 : decode cX4_mergeWithNext 93 = .ok (.iadd, 1) := by decide +kernel
theorem dX4_mergeWithNext_94 : decode cX4_mergeWithNext 94 = .ok (.iload_n 3, 1) := by decide +kernel
theorem dX4_mergeWithNext_95 : decode cX4_mergeWithNext 95 = .ok (.ifCond .ne 7, 3) := by decide +kernel
theorem dX4_mergeWithNext_98 : decode cX4_mergeWithNext 98 = .ok (.iconst 2, 1) := by decide +kernel
theorem dX4_mergeWithNext_99 : decode cX4_mergeWithNext 99 = .ok (.goto 4, 3) := by decide +kernel
theorem dX4_mergeWithNext_102 : decode cX4_mergeWithNext 102 = .ok (.iconst 1, 1) := by decide +kernel
theorem dX4_mergeWithNext_103 : decode cX4_mergeWithNext 103 = .ok (.invokevirtual 42, 3) := by decide +kernel
theorem dX4_mergeWithNext_106 : decode cX4_mergeWithNext 106 = .ok (.iload_n 2, 1) := by decide +kernel
theorem dX4_mergeWithNext_107 : decode cX4_mergeWithNext 107 = .ok (.ireturn, 1) := by decide +kernel
theorem dX4_moveUp_0 : decode cX4_moveUp 0 = .ok (.iconst 0, 1) := by decide +kernel
theorem dX4_moveUp_1 : decode cX4_moveUp 1 = .ok (.istore_n 3, 1) := by decide +kernel
theorem dX4_moveUp_2 : decode cX4_moveUp 2 = .ok (.iload_n 3, 1) := by decide +kernel
theorem dX4_moveUp_3 : decode cX4_moveUp 3 = .ok (.aload_n 0, 1) := by decide +kernel
theorem dX4_moveUp_4 : decode cX4_moveUp 4 = .ok (.getfield 23, 3) := by decide +kernel
theorem dX4_moveUp_7 : decode cX4_moveUp 7 = .ok (.if_icmp .ge 37, 3) := by decide +kernel
theorem dX4_moveUp_10 : decode cX4_moveUp 10 = .ok (.aload_n 0, 1) := by decide +kernel
theorem dX4_moveUp_11 : decode cX4_moveUp 11 = .ok (.getfield 20, 3) := by decide +kernel
theorem dX4_moveUp_14 : decode cX4_moveUp 14 = .ok (.iload_n 3, 1) := by decide +kernel
theorem dX4_moveUp_15 : decode cX4_moveUp 15 = .ok (.invokevirtual 31, 3) := by decide +kernel
theorem dX4_moveUp_18 : decode cX4_moveUp 18 = .ok (.istore 4, 2) := by decide +kernel
theorem dX4_moveUp_20 : decode cX4_moveUp 20 = .ok (.iload 4, 2) := by decide +kernel
theorem dX4_moveUp_22 : decode cX4_moveUp 22 = .ok (.iload_n 1, 1) := by decide +kernel
theorem dX4_moveUp_23 : decode cX4_moveUp 23 = .ok (.if_icmp .le 15, 3) := by decide +kernel
theorem dX4_moveUp_26 : decode cX4_moveUp 26 = .ok (.aload_n 0, 1) := by decide +kernel
theorem dX4_moveUp_27 : decode cX4_moveUp 27 = .ok (.getfield 20, 3) := by decide +kernel
theorem dX4_moveUp_30 : decode cX4_moveUp 30 = .ok (.iload_n 3, 1) := by decide +kernel
theorem dX4_moveUp_31 : decode cX4_moveUp 31 = .ok (.iload 4, 2) := by decide +kernel
theorem dX4_moveUp_33 : decode cX4_moveUp 33 = .ok (.iload_n 2, 1) := by decide +kernel
theorem dX4_moveUp_34 : decode cX4_moveUp 34 = .ok (.isub, 1) := by decide +kernel
theorem dX4_moveUp_35 : decode cX4_moveUp 35 = .ok (.invokevirtual 27, 3) := by decide +kernel
theorem dX4_moveUp_38 : decode cX4_moveUp 38 = .ok (.iinc 3 1, 3) := by decide +kernel
theorem dX4_moveUp_41 : decode cX4_moveUp 41 = .ok (.goto (-39), 3) := by decide +kernel
theorem dX4_moveUp_44 : decode cX4_moveUp 44 = .ok (.aload_n 0, 1) := by decide +kernel
theorem dX4_moveUp_45 : decode cX4_moveUp 45 = .ok (.dup, 1) := by decide +kernel
theorem dX4_moveUp_46 : decode cX4_moveUp 46 = .ok (.getfield 39, 3) := by decide +kernel
theorem dX4_moveUp_49 : decode cX4_moveUp 49 = .ok (.iload_n 2, 1) := by decide +kernel
theorem dX4_moveUp_50 : decode cX4_moveUp 50 = .ok (.isub, 1) := by decide +kernel
theorem dX4_moveUp_51 : decode cX4_moveUp 51 = .ok (.putfield 39, 3) := by decide +kernel
theorem dX4_moveUp_54 : decode cX4_moveUp 54 = .ok (.return_, 1) := by decide +kernel
theorem dX4_takeOver_0 : decode cX4_takeOver 0 = .ok (.aload_n 0, 1) := by decide +kernel
theorem dX4_takeOver_1 : decode cX4_takeOver 1 = .ok (.getfield 14, 3) := by decide +kernel
theorem dX4_takeOver_4 : decode cX4_takeOver 4 = .ok (.aload_n 1, 1) := by decide +kernel
theorem dX4_takeOver_5 : decode cX4_takeOver 5 = .ok (.getfield 14, 3) := by decide +kernel
theorem dX4_takeOver_8 : decode cX4_takeOver 8 = .ok (.invokevirtual 45, 3) := by decide +kernel
theorem dX4_takeOver_11 : decode cX4_takeOver 11 = .ok (.aload_n 0, 1) := by decide +kernel
theorem dX4_takeOver_12 : decode cX4_takeOver 12 = .ok (.getfield 20, 3) := by decide +kernel
theorem dX4_takeOver_15 : decode cX4_takeOver 15 = .ok (.aload_n 1, 1) := by decide +kernel
theorem dX4_takeOver_16 : decode cX4_takeOver 16 = .ok (.getfield 20, 3) := by decide +kernel
theorem dX4_takeOver_19 : decode cX4_takeOver 19 = .ok (.invokevirtual 45, 3) := by decide +kernel
theorem dX4_takeOver_22 : decode cX4_takeOver 22 = .ok (.aload_n 0, 1) := by decide +kernel
theorem dX4_takeOver_23 : decode cX4_takeOver 23 = .ok (.aload_n 1, 1) := by decide +kernel
theorem dX4_takeOver_24 : decode cX4_takeOver 24 = .ok (.getfield 23, 3) := by decide +kernel
theorem dX4_takeOver_27 : decode cX4_takeOver 27 = .ok (.putfield 23, 3) := by decide +kernel
theorem dX4_takeOver_30 : decode cX4_takeOver 30 = .ok (.aload_n 0, 1) := by decide +kernel
theorem dX4_takeOver_31 : decode cX4_takeOver 31 = .ok (.aload_n 1, 1) := by decide +kernel
theorem dX4_takeOver_32 : decode cX4_takeOver 32 = .ok (.getfield 39, 3) := by decide +kernel
theorem dX4_takeOver_35 : decode cX4_takeOver 35 = .ok (.putfield 39, 3) := by decide +kernel
theorem dX4_takeOver_38 : decode cX4_takeOver 38 = .ok (.return_, 1) := by decide +kernel
theorem dX4_goBackTo_0 : decode cX4_goBackTo 0 = .ok (.iconst 0, 1) := by decide +kernel
theorem dX4_goBackTo_1 : decode cX4_goBackTo 1 = .ok (.istore_n 2, 1) := by decide +kernel
theorem dX4_goBackTo_2 : decode cX4_goBackTo 2 = .ok (.iconst 0, 1) := by decide +kernel
theorem dX4_goBackTo_3 : decode cX4_goBackTo 3 = .ok (.istore_n 3, 1) := by decide +kernel
theorem dX4_goBackTo_4 : decode cX4_goBackTo 4 = .ok (.iload_n 3, 1) := by decide +kernel
theorem dX4_goBackTo_5 : decode cX4_goBackTo 5 = .ok (.aload_n 0, 1) := by decide +kernel
theorem dX4_goBackTo_6 : decode cX4_goBackTo 6 = .ok (.getfield 23, 3) := by decide +kernel
theorem dX4_goBackTo_9 : decode cX4_goBackTo 9 = .ok (.if_icmp .ge 92, 3) := by decide +kernel
theorem dX4_goBackTo_12 : decode cX4_goBackTo 12 = .ok (.aload_n 0, 1) := by decide +kernel
theorem dX4_goBackTo_13 : decode cX4_goBackTo 13 = .ok (.iload_n 3, 1) := by decide +kernel
theorem dX4_goBackTo_14 : decode cX4_goBackTo 14 = .ok (.invokevirtual 49, 3) := by decide +kernel
theorem dX4_goBackTo_17 : decode cX4_goBackTo 17 = .ok (.istore 4, 2) := by decide +kernel
theorem dX4_goBackTo_19 : decode cX4_goBackTo 19 = .ok (.iload_n 3, 1) := by decide +kernel
theorem dX4_goBackTo_20 : decode cX4_goBackTo 20 = .ok (.aload_n 1, 1) := by decide +kernel
theorem dX4_goBackTo_21 : decode cX4_goBackTo 21 = .ok (.getfield 23, 3) := by decide +kernel
theorem dX4_goBackTo_24 : decode cX4_goBackTo 24 = .ok (.if_icmp .lt 7, 3) := by decide +kernel
theorem dX4_goBackTo_27 : decode cX4_goBackTo 27 = .ok (.iconst 1, 1) := by decide +kernel
theorem dX4_goBackTo_28 : decode cX4_goBackTo 28 = .ok (.goto 4, 3) := by decide +kernel
theorem dX4_goBackTo_31 : decode cX4_goBackTo 31 = .ok (.iconst 0, 1) := by decide +kernel
theorem dX4_goBackTo_32 : decode cX4_goBackTo 32 = .ok (.istore 5, 2) := by decide +kernel
theorem dX4_goBackTo_34 : decode cX4_goBackTo 34 = .ok (.aload_n 0, 1) := by decide +kernel
theorem dX4_goBackTo_35 : decode cX4_goBackTo 35 = .ok (.getfield 14, 3) := by decide +kernel
theorem dX4_goBackTo_38 : decode cX4_goBackTo 38 = .ok (.iload_n 3, 1) := by decide +kernel
theorem dX4_goBackTo_39 : decode cX4_goBackTo 39 = .ok (.iload 5, 2) := by decide +kernel
theorem dX4_goBackTo_41 : decode cX4_goBackTo 41 = .ok (.ifCond .eq 8, 3) := by decide +kernel
theorem dX4_goBackTo_44 : decode cX4_goBackTo 44 = .ok (.bipush 108, 2) := by decide +kernel
theorem dX4_goBackTo_46 : decode cX4_goBackTo 46 = .ok (.goto 8, 3) := by decide +kernel
theorem dX4_goBackTo_49 : decode cX4_goBackTo 49 = .ok (.aload_n 1, 1) := by decide +kernel
theorem dX4_goBackTo_50 : decode cX4_goBackTo 50 = .ok (.iload_n 3, 1) := by decide +kernel
theorem dX4_goBackTo_51 : decode cX4_goBackTo 51 = .ok (.invokevirtual 35, 3) := by decide +kernel
theorem dX4_goBackTo_54 : decode cX4_goBackTo 54 = .ok (.invokevirtual 27, 3) := by decide +kernel
theorem dX4_goBackTo_57 : decode cX4_goBackTo 57 = .ok (.aload_n 0, 1) := by decide +kernel
theorem dX4_goBackTo_58 : decode cX4_goBackTo 58 = .ok (.getfield 20, 3) := by decide +kernel
theorem dX4_goBackTo_61 : decode cX4_goBackTo 61 = .ok (.iload_n 3, 1) := by decide +kernel
theorem dX4_goBackTo_62 : decode cX4_goBackTo 62 = .ok (.iload 5, 2) := by decide +kernel
theorem dX4_goBackTo_64 : decode cX4_goBackTo 64 = .ok (.ifCond .eq 7, 3) := by decide +kernel
theorem dX4_goBackTo_67 : decode cX4_goBackTo 67 = .ok (.iconst (-1), 1) := by decide +kernel
theorem dX4_goBackTo_68 : decode cX4_goBackTo 68 = .ok (.goto 11, 3) := by decide +kernel
theorem dX4_goBackTo_71 : decode cX4_goBackTo 71 = .ok (.aload_n 1, 1) := by decide +kernel
theorem dX4_goBackTo_72 : decode cX4_goBackTo 72 = .ok (.getfield 20, 3) := by decide +kernel
theorem dX4_goBackTo_75 : decode cX4_goBackTo 75 = .ok (.iload_n 3, 1) := by decide +kernel
theorem dX4_goBackTo_76 : decode cX4_goBackTo 76 = .ok (.invokevirtual 31, 3) := by decide +kernel
theorem dX4_goBackTo_79 : decode cX4_goBackTo 79 = .ok (.invokevirtual 27, 3) := by decide +kernel
theorem dX4_goBackTo_82 : decode cX4_goBackTo 82 = .ok (.aload_n 0, 1) := by decide +kernel
theorem dX4_goBackTo_83 : decode cX4_goBackTo 83 = .ok (.iload_n 3, 1) := by decide +kernel
theorem dX4_goBackTo_84 : decode cX4_goBackTo 84 = .ok (.invokevirtual 49, 3) := by decide +kernel
theorem dX4_goBackTo_87 : decode cX4_goBackTo 87 = .ok (.iload 4, 2) := by decide +kernel
theorem dX4_goBackTo_89 : decode cX4_goBackTo 89 = .ok (.if_icmp .eq 6, 3) := by decide +kernel
theorem dX4_goBackTo_92 : decode cX4_goBackTo 92 = .ok (.iinc 2 1, 3) := by decide +kernel
theorem dX4_goBackTo_95 : decode cX4_goBackTo 95 = .ok (.iinc 3 1, 3) := by decide +kernel
theorem dX4_goBackTo_98 : decode cX4_goBackTo 98 = .ok (.goto (-94), 3) := by decide +kernel
theorem dX4_goBackTo_101 : decode cX4_goBackTo 101 = .ok (.aload_n 0, 1) := by decide +kernel
theorem dX4_goBackTo_102 : decode cX4_goBackTo 102 = .ok (.aload_n 1, 1) := by decide +kernel
theorem dX4_goBackTo_103 : decode cX4_goBackTo 103 = .ok (.getfield 39, 3) := by decide +kernel
theorem dX4_goBackTo_106 : decode cX4_goBackTo 106 = .ok (.putfield 39, 3) := by decide +kernel
theorem dX4_goBackTo_109 : decode cX4_goBackTo 109 = .ok (.iload_n 2, 1) := by decide +kernel
theorem dX4_goBackTo_110 : decode cX4_goBackTo 110 = .ok (.ireturn, 1) := by decide +kernel
theorem dX4_listPresent_0 : decode cX4_listPresent 0 = .ok (.iconst 0, 1) := by decide +kernel
theorem dX4_listPresent_1 : decode cX4_listPresent 1 = .ok (.istore_n 2, 1) := by decide +kernel
theorem dX4_listPresent_2 : decode cX4_listPresent 2 = .ok (.aload_n 1, 1) := by decide +kernel
theorem dX4_listPresent_3 : decode cX4_listPresent 3 = .ok (.iconst 0, 1) := by decide +kernel
theorem dX4_listPresent_4 : decode cX4_listPresent 4 = .ok (.invokevirtual 53, 3) := by decide +kernel
theorem dX4_listPresent_7 : decode cX4_listPresent 7 = .ok (.iconst 0, 1) := by decide +kernel
theorem dX4_listPresent_8 : decode cX4_listPresent 8 = .ok (.istore_n 3, 1) := by decide +kernel
theorem dX4_listPresent_9 : decode cX4_listPresent 9 = .ok (.iload_n 3, 1) := by decide +kernel
theorem dX4_listPresent_10 : decode cX4_listPresent 10 = .ok (.aload_n 0, 1) := by decide +kernel
theorem dX4_listPresent_11 : decode cX4_listPresent 11 = .ok (.getfield 23, 3) := by decide +kernel
theorem dX4_listPresent_14 : decode cX4_listPresent 14 = .ok (.if_icmp .ge 31, 3) := by decide +kernel
theorem dX4_listPresent_17 : decode cX4_listPresent 17 = .ok (.aload_n 0, 1) := by decide +kernel
theorem dX4_listPresent_18 : decode cX4_listPresent 18 = .ok (.iload_n 3, 1) := by decide +kernel
theorem dX4_listPresent_19 : decode cX4_listPresent 19 = .ok (.invokevirtual 35, 3) := by decide +kernel
theorem dX4_listPresent_22 : decode cX4_listPresent 22 = .ok (.bipush 115, 2) := by decide +kernel
theorem dX4_listPresent_24 : decode cX4_listPresent 24 = .ok (.if_icmp .eq 6, 3) := by decide +kernel
theorem dX4_listPresent_27 : decode cX4_listPresent 27 = .ok (.goto 12, 3) := by decide +kernel
theorem dX4_listPresent_30 : decode cX4_listPresent 30 = .ok (.aload_n 1, 1) := by decide +kernel
theorem dX4_listPresent_31 : decode cX4_listPresent 31 = .ok (.iload_n 3, 1) := by decide +kernel
theorem dX4_listPresent_32 : decode cX4_listPresent 32 = .ok (.iconst 1, 1) := by decide +kernel
theorem dX4_listPresent_33 : decode cX4_listPresent 33 = .ok (.invokevirtual 27, 3) := by decide +kernel
theorem dX4_listPresent_36 : decode cX4_listPresent 36 = .ok (.iinc 2 1, 3) := by decide +kernel
theorem dX4_listPresent_39 : decode cX4_listPresent 39 = .ok (.iinc 3 1, 3) := by decide +kernel
theorem dX4_listPresent_42 : decode cX4_listPresent 42 = .ok (.goto (-33), 3) := by decide +kernel
theorem dX4_listPresent_45 : decode cX4_listPresent 45 = .ok (.iload_n 2, 1) := by decide +kernel
theorem dX4_listPresent_46 : decode cX4_listPresent 46 = .ok (.ireturn, 1) := by decide +kernel
theorem dX4_inSegments_0 : decode cX4_inSegments 0 = .ok (.iconst 0, 1) := by decide +kernel
theorem dX4_inSegments_1 : decode cX4_inSegments 1 = .ok (.istore_n 1, 1) := by decide +kernel
theorem dX4_inSegments_2 : decode cX4_inSegments 2 = .ok (.iconst 0, 1) := by decide +kernel
theorem dX4_inSegments_3 : decode cX4_inSegments 3 = .ok (.istore_n 2, 1) := by decide +kernel
theorem dX4_inSegments_4 : decode cX4_inSegments 4 = .ok (.iload_n 2, 1) := by decide +kernel
theorem dX4_inSegments_5 : decode cX4_inSegments 5 = .ok (.aload_n 0, 1) := by decide +kernel
theorem dX4_inSegments_6 : decode cX4_inSegments 6 = .ok (.getfield 23, 3) := by decide +kernel
theorem dX4_inSegments_9 : decode cX4_inSegments 9 = .ok (.if_icmp .ge 24, 3) := by decide +kernel
theorem dX4_inSegments_12 : decode cX4_inSegments 12 = .ok (.aload_n 0, 1) := by decide +kernel
theorem dX4_inSegments_13 : decode cX4_inSegments 13 = .ok (.getfield 20, 3) := by decide +kernel
theorem dX4_inSegments_16 : decode cX4_inSegments 16 = .ok (.iload_n 2, 1) := by decide +kernel
theorem dX4_inSegments_17 : decode cX4_inSegments 17 = .ok (.invokevirtual 31, 3) := by decide +kernel
theorem dX4_inSegments_20 : decode cX4_inSegments 20 = .ok (.iconst (-1), 1) := by decide +kernel
theorem dX4_inSegments_21 : decode cX4_inSegments 21 = .ok (.if_icmp .eq 6, 3) := by decide +kernel
theorem dX4_inSegments_24 : decode cX4_inSegments 24 = .ok (.iinc 1 1, 3) := by decide +kernel
theorem dX4_inSegments_27 : decode cX4_inSegments 27 = .ok (.iinc 2 1, 3) := by decide +kernel
theorem dX4_inSegments_30 : decode cX4_inSegments 30 = .ok (.goto (-26), 3) := by decide +kernel
theorem dX4_inSegments_33 : decode cX4_inSegments 33 = .ok (.iload_n 1, 1) := by decide +kernel
theorem dX4_inSegments_34 : decode cX4_inSegments 34 = .ok (.ireturn, 1) := by decide +kernel
theorem dX4_removedInSegments_0 : decode cX4_removedInSegments 0 = .ok (.iconst 0, 1) := by decide +kernel
theorem dX4_removedInSegments_1 : decode cX4_removedInSegments 1 = .ok (.istore_n 1, 1) := by decide +kernel
theorem dX4_removedInSegments_2 : decode cX4_removedInSegments 2 = .ok (.iconst 0, 1) := by decide +kernel
theorem dX4_removedInSegments_3 : decode cX4_removedInSegments 3 = .ok (.istore_n 2, 1) := by decide +kernel
theorem dX4_removedInSegments_4 : decode cX4_removedInSegments 4 = .ok (.iload_n 2, 1) := by decide +kernel
theorem dX4_removedInSegments_5 : decode cX4_removedInSegments 5 = .ok (.aload_n 0, 1) := by decide +kernel
theorem dX4_removedInSegments_6 : decode cX4_removedInSegments 6 = .ok (.getfield 23, 3) := by decide +kernel
theorem dX4_removedInSegments_9 : decode cX4_removedInSegments 9 = .ok (.if_icmp .ge 34, 3) := by decide +kernel
theorem dX4_removedInSegments_12 : decode cX4_removedInSegments 12 = .ok (.aload_n 0, 1) := by decide +kernel
theorem dX4_removedInSegments_13 : decode cX4_removedInSegments 13 = .ok (.getfield 20, 3) := by decide +kernel
theorem dX4_removedInSegments_16 : decode cX4_removedInSegments 16 = .ok (.iload_n 2, 1) := by decide +kernel
theorem dX4_removedInSegments_17 : decode cX4_removedInSegments 17 = .ok (.invokevirtual 31, 3) := by decide +kernel
theorem dX4_removedInSegments_20 : decode cX4_removedInSegments 20 = .ok (.iconst (-1), 1) := by decide +kernel
theorem dX4_removedInSegments_21 : decode cX4_removedInSegments 21 = .ok (.if_icmp .eq 16, 3) := by decide +kernel
theorem dX4_removedInSegments_24 : decode cX4_removedInSegments 24 = .ok (.aload_n 0, 1) := by decide +kernel
theorem dX4_removedInSegments_25 : decode cX4_removedInSegments 25 = .ok (.iload_n 2, 1) := by decide +kernel
theorem dX4_removedInSegments_26 : decode cX4_removedInSegments 26 = .ok (.invokevirtual 35, 3) := by decide +kernel
theorem dX4_removedInSegments_29 : decode cX4_removedInSegments 29 = .ok (.bipush 114, 2) := by decide +kernel
theorem dX4_removedInSegments_31 : decode cX4_removedInSegments 31 = .ok (.if_icmp .ne 6, 3) := by decide +kernel
theorem dX4_removedInSegments_34 : decode cX4_removedInSegments 34 = .ok (.iinc 1 1, 3) := by decide +kernel
theorem dX4_removedInSegments_37 : decode cX4_removedInSegments 37 = .ok (.iinc 2 1, 3) := by decide +kernel
theorem dX4_removedInSegments_40 : decode cX4_removedInSegments 40 = .ok (.goto (-36), 3) := by decide +kernel
theorem dX4_removedInSegments_43 : decode cX4_removedInSegments 43 = .ok (.iload_n 1, 1) := by decide +kernel
theorem dX4_removedInSegments_44 : decode cX4_removedInSegments 44 = .ok (.ireturn, 1) := by decide +kernel
theorem dX5_init_0 : decode cX5_init 0 = .ok (.aload_n 0, 1) := by decide +kernel
theorem dX5_init_1 : decode cX5_init 1 = .ok (.invokespecial 1, 3) := by decide +kernel
theorem dX5_init_4 : decode cX5_init 4 = .ok (.aload_n 0, 1) := by decide +kernel
theorem dX5_init_5 : decode cX5_init 5 = .ok (.iload_n 1, 1) := by decide +kernel
theorem dX5_init_6 : decode cX5_init 6 = .ok (.putfield 7, 3) := by decide +kernel
theorem dX5_init_9 : decode cX5_init 9 = .ok (.aload_n 0, 1) := by decide +kernel
theorem dX5_init_10 : decode cX5_init 10 = .ok (.iload_n 2, 1) := by decide +kernel
theorem dX5_init_11 : decode cX5_init 11 = .ok (.putfield 13, 3) := by decide +kernel
theorem dX5_init_14 : decode cX5_init 14 = .ok (.aload_n 0, 1) := by decide +kernel
theorem dX5_init_15 : decode cX5_init 15 = .ok (.iload_n 3, 1) := by decide +kernel
theorem dX5_init_16 : decode cX5_init 16 = .ok (.putfield 17, 3) := by decide +kernel
theorem dX5_init_19 : decode cX5_init 19 = .ok (.return_, 1) := by decide +kernel
theorem dX5_canBe_0 : decode cX5_canBe 0 = .ok (.iload_n 0, 1) := by decide +kernel
theorem dX5_canBe_1 : decode cX5_canBe 1 = .ok (.bipush 108, 2) := by decide +kernel
theorem dX5_canBe_3 : decode cX5_canBe 3 = .ok (.if_icmp .eq 9, 3) := by decide +kernel
theorem dX5_canBe_6 : decode cX5_canBe 6 = .ok (.iload_n 0, 1) := by decide +kernel
theorem dX5_canBe_7 : decode cX5_canBe 7 = .ok (.bipush 109, 2) := by decide +kernel
theorem dX5_canBe_9 : decode cX5_canBe 9 = .ok (.if_icmp .ne 5, 3) := by decide +kernel
theorem dX5_canBe_12 : decode cX5_canBe 12 = .ok (.iconst 1, 1) := by decide +kernel
theorem dX5_canBe_13 : decode cX5_canBe 13 = .ok (.ireturn, 1) := by decide +kernel
theorem dX5_canBe_14 : decode cX5_canBe 14 = .ok (.iload_n 0, 1) := by decide +kernel
theorem dX5_canBe_15 : decode cX5_canBe 15 = .ok (.bipush 115, 2) := by decide +kernel
theorem dX5_canBe_17 : decode cX5_canBe 17 = .ok (.if_icmp .eq 9, 3) := by decide +kernel
theorem dX5_canBe_20 : decode cX5_canBe 20 = .ok (.iload_n 0, 1) := by decide +kernel
theorem dX5_canBe_21 : decode cX5_canBe 21 = .ok (.bipush 99, 2) := by decide +kernel
theorem dX5_canBe_23 : decode cX5_canBe 23 = .ok (.if_icmp .ne 8, 3) := by decide +kernel
theorem dX5_canBe_26 : decode cX5_canBe 26 = .ok (.iload_n 1, 1) := by decide +kernel
theorem dX5_canBe_27 : decode cX5_canBe 27 = .ok (.invokestatic 20, 3) := by decide +kernel
theorem dX5_canBe_30 : decode cX5_canBe 30 = .ok (.ireturn, 1) := by decide +kernel
theorem dX5_canBe_31 : decode cX5_canBe 31 = .ok (.iload_n 0, 1) := by decide +kernel
theorem dX5_canBe_32 : decode cX5_canBe 32 = .ok (.bipush 121, 2) := by decide +kernel
theorem dX5_canBe_34 : decode cX5_canBe 34 = .ok (.if_icmp .ne 21, 3) := by decide +kernel
theorem dX5_canBe_37 : decode cX5_canBe 37 = .ok (.iload_n 1, 1) := by decide +kernel
theorem dX5_canBe_38 : decode cX5_canBe 38 = .ok (.invokestatic 20, 3) := by decide +kernel
theorem dX5_canBe_41 : decode cX5_canBe 41 = .ok (.ifCond .eq 14, 3) := by decide +kernel
theorem dX5_canBe_44 : decode cX5_canBe 44 = .ok (.iload_n 2, 1) := by decide +kernel
theorem dX5_canBe_45 : decode cX5_canBe 45 = .ok (.invokestatic 20, 3) := by decide +kernel
theorem dX5_canBe_48 : decode cX5_canBe 48 = .ok (.ifCond .eq 7, 3) := by decide +kernel
theorem dX5_canBe_51 : decode cX5_canBe 51 = .ok (.iconst 1, 1) := by decide +kernel
theorem dX5_canBe_52 : decode cX5_canBe 52 = .ok (.goto 4, 3) := by decide +kernel
theorem dX5_canBe_55 : decode cX5_canBe 55 = .ok (.iconst 0, 1) := by decide +kernel
theorem dX5_canBe_56 : decode cX5_canBe 56 = .ok (.ireturn, 1) := by decide +kernel
theorem dX5_change_0 : decode cX5_change 0 = .ok (.aload_n 0, 1) := by decide +kernel
theorem dX5_change_1 : decode cX5_change 1 = .ok (.getfield 7, 3) := by decide +kernel
theorem dX5_change_4 : decode cX5_change 4 = .ok (.bipush 108, 2) := by decide +kernel
theorem dX5_change_6 : decode cX5_change 6 = .ok (.if_icmp .ne 7, 3) := by decide +kernel
theorem dX5_change_9 : decode cX5_change 9 = .ok (.aload_n 1, 1) := by decide +kernel
theorem dX5_change_10 : decode cX5_change 10 = .ok (.invokevirtual 26, 3) := by decide +kernel
theorem dX5_change_13 : decode cX5_change 13 = .ok (.aload_n 0, 1) := by decide +kernel
theorem dX5_change_14 : decode cX5_change 14 = .ok (.getfield 7, 3) := by decide +kernel
theorem dX5_change_17 : decode cX5_change 17 = .ok (.bipush 109, 2) := by decide +kernel
theorem dX5_change_19 : decode cX5_change 19 = .ok (.if_icmp .ne 7, 3) := by decide +kernel
theorem dX5_change_22 : decode cX5_change 22 = .ok (.aload_n 1, 1) := by decide +kernel
theorem dX5_change_23 : decode cX5_change 23 = .ok (.invokevirtual 31, 3) := by decide +kernel
theorem dX5_change_26 : decode cX5_change 26 = .ok (.aload_n 0, 1) := by decide +kernel
theorem dX5_change_27 : decode cX5_change 27 = .ok (.getfield 7, 3) := by decide +kernel
theorem dX5_change_30 : decode cX5_change 30 = .ok (.bipush 115, 2) := by decide +kernel
theorem dX5_change_32 : decode cX5_change 32 = .ok (.if_icmp .ne 11, 3) := by decide +kernel
theorem dX5_change_35 : decode cX5_change 35 = .ok (.aload_n 1, 1) := by decide +kernel
theorem dX5_change_36 : decode cX5_change 36 = .ok (.aload_n 0, 1) := by decide +kernel
theorem dX5_change_37 : decode cX5_change 37 = .ok (.getfield 13, 3) := by decide +kernel
theorem dX5_change_40 : decode cX5_change 40 = .ok (.invokevirtual 34, 3) := by decide +kernel
theorem dX5_change_43 : decode cX5_change 43 = .ok (.aload_n 0, 1) := by decide +kernel
theorem dX5_change_44 : decode cX5_change 44 = .ok (.getfield 7, 3) := by decide +kernel
theorem dX5_change_47 : decode cX5_change 47 = .ok (.bipush 99, 2) := by decide +kernel
theorem dX5_change_49 : decode cX5_change 49 = .ok (.if_icmp .ne 11, 3) := by decide +kernel
theorem dX5_change_52 : decode cX5_change 52 = .ok (.aload_n 1, 1) := by decide +kernel
theorem dX5_change_53 : decode cX5_change 53 = .ok (.aload_n 0, 1) := by decide +kernel
theorem dX5_change_54 : decode cX5_change 54 = .ok (.getfield 13, 3) := by decide +kernel
theorem dX5_change_57 : decode cX5_change 57 = .ok (.invokevirtual 38, 3) := by decide +kernel
theorem dX5_change_60 : decode cX5_change 60 = .ok (.aload_n 0, 1) := by decide +kernel
theorem dX5_change_61 : decode cX5_change 61 = .ok (.getfield 7, 3) := by decide +kernel
theorem dX5_change_64 : decode cX5_change 64 = .ok (.bipush 121, 2) := by decide +kernel
theorem dX5_change_66 : decode cX5_change 66 = .ok (.if_icmp .ne 15, 3) := by decide +kernel
theorem dX5_change_69 : decode cX5_change 69 = .ok (.aload_n 1, 1) := by decide +kernel
theorem dX5_change_70 : decode cX5_change 70 = .ok (.aload_n 0, 1) := by decide +kernel
theorem dX5_change_71 : decode cX5_change 71 = .ok (.getfield 13, 3) := by decide +kernel
theorem dX5_change_74 : decode cX5_change 74 = .ok (.aload_n 0, 1) := by decide +kernel
theorem dX5_change_75 : decode cX5_change 75 = .ok (.getfield 17, 3) := by decide +kernel
theorem dX5_change_78 : decode cX5_change 78 = .ok (.invokevirtual 41, 3) := by decide +kernel
theorem dX5_change_81 : decode cX5_change 81 = .ok (.return_, 1) := by decide +kernel
theorem dX6_init_0 : decode cX6_init 0 = .ok (.aload_n 0, 1) := by decide +kernel
theorem dX6_init_1 : decode cX6_init 1 = .ok (.invokespecial 3, 3) := by decide +kernel
theorem dX6_init_4 : decode cX6_init 4 = .ok (.aload_n 0, 1) := by decide +kernel
theorem dX6_init_5 : decode cX6_init 5 = .ok (.new 9, 3) := by decide +kernel
theorem dX6_init_8 : decode cX6_init 8 = .ok (.dup, 1) := by decide +kernel
theorem dX6_init_9 : decode cX6_init 9 = .ok (.bipush 84, 2) := by decide +kernel
theorem dX6_init_11 : decode cX6_init 11 = .ok (.invokespecial 11, 3) := by decide +kernel
theorem dX6_init_14 : decode cX6_init 14 = .ok (.putfield 14, 3) := by decide +kernel
theorem dX6_init_17 : decode cX6_init 17 = .ok (.aload_n 0, 1) := by decide +kernel
theorem dX6_init_18 : decode cX6_init 18 = .ok (.new 9, 3) := by decide +kernel
theorem dX6_init_21 : decode cX6_init 21 = .ok (.dup, 1) := by decide +kernel
theorem dX6_init_22 : decode cX6_init 22 = .ok (.bipush 84, 2) := by decide +kernel
theorem dX6_init_24 : decode cX6_init 24 = .ok (.invokespecial 11, 3) := by decide +kernel
theorem dX6_init_27 : decode cX6_init 27 = .ok (.putfield 20, 3) := by decide +kernel
theorem dX6_init_30 : decode cX6_init 30 = .ok (.aload_n 0, 1) := by decide +kernel
theorem dX6_init_31 : decode cX6_init 31 = .ok (.new 9, 3) := by decide +kernel
theorem dX6_init_34 : decode cX6_init 34 = .ok (.dup, 1) := by decide +kernel
theorem dX6_init_35 : decode cX6_init 35 = .ok (.bipush 84, 2) := by decide +kernel
theorem dX6_init_37 : decode cX6_init 37 = .ok (.invokespecial 11, 3) := by decide +kernel
theorem dX6_init_40 : decode cX6_init 40 = .ok (.putfield 23, 3) := by decide +kernel
theorem dX6_init_43 : decode cX6_init 43 = .ok (.return_, 1) := by decide +kernel
theorem dX6_append_0 : decode cX6_append 0 = .ok (.aload_n 0, 1) := by decide +kernel
theorem dX6_append_1 : decode cX6_append 1 = .ok (.getfield 26, 3) := by decide +kernel
theorem dX6_append_4 : decode cX6_append 4 = .ok (.bipush 84, 2) := by decide +kernel
theorem dX6_append_6 : decode cX6_append 6 = .ok (.if_icmp .lt 4, 3) := by decide +kernel
theorem dX6_append_9 : decode cX6_append 9 = .ok (.return_, 1) := by decide +kernel
theorem dX6_append_10 : decode cX6_append 10 = .ok (.aload_n 0, 1) := by decide +kernel
theorem dX6_append_11 : decode cX6_append 11 = .ok (.getfield 14, 3) := by decide +kernel
theorem dX6_append_14 : decode cX6_append 14 = .ok (.aload_n 0, 1) := by decide +kernel
theorem dX6_append_15 : decode cX6_append 15 = .ok (.getfield 26, 3) := by decide +kernel
theorem dX6_append_18 : decode cX6_append 18 = .ok (.iload_n 1, 1) := by decide +kernel
theorem dX6_append_19 : decode cX6_append 19 = .ok (.invokevirtual 30, 3) := by decide +kernel
theorem dX6_append_22 : decode cX6_append 22 = .ok (.aload_n 0, 1) := by decide +kernel
theorem dX6_append_23 : decode cX6_append 23 = .ok (.getfield 20, 3) := by decide +kernel
theorem dX6_append_26 : decode cX6_append 26 = .ok (.aload_n 0, 1) := by decide +kernel
theorem dX6_append_27 : decode cX6_append 27 = .ok (.getfield 26, 3) := by decide +kernel
theorem dX6_append_30 : decode cX6_append 30 = .ok (.iload_n 2, 1) := by decide +kernel
theorem dX6_append_31 : decode cX6_append 31 = .ok (.invokevirtual 30, 3) := by decide +kernel
theorem dX6_append_34 : decode cX6_append 34 = .ok (.aload_n 0, 1) := by decide +kernel
theorem dX6_append_35 : decode cX6_append 35 = .ok (.getfield 23, 3) := by decide +kernel
theorem dX6_append_38 : decode cX6_append 38 = .ok (.aload_n 0, 1) := by decide +kernel
theorem dX6_append_39 : decode cX6_append 39 = .ok (.getfield 26, 3) := by decide +kernel
theorem dX6_append_42 : decode cX6_append 42 = .ok (.iload_n 3, 1) := by decide +kernel
theorem dX6_append_43 : decode cX6_append 43 = .ok (.invokevirtual 30, 3) := by decide +kernel
theorem dX6_append_46 : decode cX6_append 46 = .ok (.aload_n 0, 1) := by decide +kernel
theorem dX6_append_47 : decode cX6_append 47 = .ok (.dup, 1) := by decide +kernel
theorem dX6_append_48 : decode cX6_append 48 = .ok (.getfield 26, 3) := by decide +kernel
theorem dX6_append_51 : decode cX6_append 51 = .ok (.iconst 1, 1) := by decide +kernel
theorem dX6_append_52 : decode cX6_append 52 = .ok (.iadd, 1) := by decide +kernel
theorem dX6_append_53 : decode cX6_append 53 = .ok (.putfield 26, 3) := by decide +kernel
theorem dX6_append_56 : decode cX6_append 56 = .ok (.return_, 1) := by decide +kernel
theorem dX6_lower_0 : decode cX6_lower 0 = .ok (.iconst 0, 1) := by decide +kernel
theorem dX6_lower_1 : decode cX6_lower 1 = .ok (.istore_n 1, 1) := by decide +kernel
theorem dX6_lower_2 : decode cX6_lower 2 = .ok (.iload_n 1, 1) := by decide +kernel
theorem dX6_lower_3 : decode cX6_lower 3 = .ok (.aload_n 0, 1) := by decide +kernel
theorem dX6_lower_4 : decode cX6_lower 4 = .ok (.getfield 26, 3) := by decide +kernel
theorem dX6_lower_7 : decode cX6_lower 7 = .ok (.if_icmp .ge 36, 3) := by decide +kernel
theorem dX6_lower_10 : decode cX6_lower 10 = .ok (.aload_n 0, 1) := by decide +kernel
theorem dX6_lower_11 : decode cX6_lower 11 = .ok (.getfield 14, 3) := by decide +kernel
theorem dX6_lower_14 : decode cX6_lower 14 = .ok (.iload_n 1, 1) := by decide +kernel
theorem dX6_lower_15 : decode cX6_lower 15 = .ok (.invokevirtual 34, 3) := by decide +kernel
theorem dX6_lower_18 : decode cX6_lower 18 = .ok (.istore_n 2, 1) := by decide +kernel
theorem dX6_lower_19 : decode cX6_lower 19 = .ok (.iload_n 2, 1) := by decide +kernel
theorem dX6_lower_20 : decode cX6_lower 20 = .ok (.bipush 30, 2) := by decide +kernel
theorem dX6_lower_22 : decode cX6_lower 22 = .ok (.if_icmp .lt 15, 3) := by decide +kernel
theorem dX6_lower_25 : decode cX6_lower 25 = .ok (.aload_n 0, 1) := by decide +kernel
theorem dX6_lower_26 : decode cX6_lower 26 = .ok (.getfield 14, 3) := by decide +kernel
theorem dX6_lower_29 : decode cX6_lower 29 = .ok (.iload_n 1, 1) := by decide +kernel
theorem dX6_lower_30 : decode cX6_lower 30 = .ok (.iload_n 2, 1) := by decide +kernel
theorem dX6_lower_31 : decode cX6_lower 31 = .ok (.bipush 30, 2) := by decide +kernel
theorem dX6_lower_33 : decode cX6_lower 33 = .ok (.isub, 1) := by decide +kernel
theorem dX6_lower_34 : decode cX6_lower 34 = .ok (.invokevirtual 30, 3) := by decide +kernel
theorem dX6_lower_37 : decode cX6_lower 37 = .ok (.iinc 1 1, 3) := by decide +kernel
theorem dX6_lower_40 : decode cX6_lower 40 = .ok (.goto (-38), 3) := by decide +kernel
theorem dX6_lower_43 : decode cX6_lower 43 = .ok (.return_, 1) := by decide +kernel
theorem dX6_makeEven_0 : decode cX6_makeEven 0 = .ok (.iconst 0, 1) := by decide +kernel
theorem dX6_makeEven_1 : decode cX6_makeEven 1 = .ok (.istore_n 1, 1) := by decide +kernel
theorem dX6_makeEven_2 : decode cX6_makeEven 2 = .ok (.iload_n 1, 1) := by decide +kernel
theorem dX6_makeEven_3 : decode cX6_makeEven 3 = .ok (.aload_n 0, 1) := by decide +kernel
theorem dX6_makeEven_4 : decode cX6_makeEven 4 = .ok (.getfield 26, 3) := by decide +kernel
theorem dX6_makeEven_7 : decode cX6_makeEven 7 = .ok (.if_icmp .ge 28, 3) := by decide +kernel
theorem dX6_makeEven_10 : decode cX6_makeEven 10 = .ok (.aload_n 0, 1) := by decide +kernel
theorem dX6_makeEven_11 : decode cX6_makeEven 11 = .ok (.getfield 14, 3) := by decide +kernel
theorem dX6_makeEven_14 : decode cX6_makeEven 14 = .ok (.iload_n 1, 1) := by decide +kernel
theorem dX6_makeEven_15 : decode cX6_makeEven 15 = .ok (.aload_n 0, 1) := by decide +kernel
theorem dX6_makeEven_16 : decode cX6_makeEven 16 = .ok (.getfield 14, 3) := by decide +kernel
theorem dX6_makeEven_19 : decode cX6_makeEven 19 = .ok (.iload_n 1, 1) := by decide +kernel
theorem dX6_makeEven_20 : decode cX6_makeEven 20 = .ok (.invokevirtual 34, 3) := by decide +kernel
theorem dX6_makeEven_23 : decode cX6_makeEven 23 = .ok (.bipush (-2), 2) := by decide +kernel
theorem dX6_makeEven_25 : decode cX6_makeEven 25 = .ok (.iand, 1) := by decide +kernel
theorem dX6_makeEven_26 : decode cX6_makeEven 26 = .ok (.invokevirtual 30, 3) := by decide +kernel
theorem dX6_makeEven_29 : decode cX6_makeEven 29 = .ok (.iinc 1 1, 3) := by decide +kernel
theorem dX6_makeEven_32 : decode cX6_makeEven 32 = .ok (.goto (-30), 3) := by decide +kernel
theorem dX6_makeEven_35 : decode cX6_makeEven 35 = .ok (.return_, 1) := by decide +kernel
theorem dX6_takeOut_0 : decode cX6_takeOut 0 = .ok (.iconst 0, 1) := by decide +kernel
theorem dX6_takeOut_1 : decode cX6_takeOut 1 = .ok (.istore_n 2, 1) := by decide +kernel
theorem dX6_takeOut_2 : decode cX6_takeOut 2 = .ok (.iconst 0, 1) := by decide +kernel
theorem dX6_takeOut_3 : decode cX6_takeOut 3 = .ok (.istore_n 3, 1) := by decide +kernel
theorem dX6_takeOut_4 : decode cX6_takeOut 4 = .ok (.iload_n 3, 1) := by decide +kernel
theorem dX6_takeOut_5 : decode cX6_takeOut 5 = .ok (.aload_n 0, 1) := by decide +kernel
theorem dX6_takeOut_6 : decode cX6_takeOut 6 = .ok (.getfield 26, 3) := by decide +kernel
theorem dX6_takeOut_9 : decode cX6_takeOut 9 = .ok (.if_icmp .ge 75, 3) := by decide +kernel
theorem dX6_takeOut_12 : decode cX6_takeOut 12 = .ok (.aload_n 0, 1) := by decide +kernel
theorem dX6_takeOut_13 : decode cX6_takeOut 13 = .ok (.getfield 14, 3) := by decide +kernel
theorem dX6_takeOut_16 : decode cX6_takeOut 16 = .ok (.iload_n 3, 1) := by decide +kernel
theorem dX6_takeOut_17 : decode cX6_takeOut 17 = .ok (.invokevirtual 34, 3) := by decide +kernel
theorem dX6_takeOut_20 : decode cX6_takeOut 20 = .ok (.iload_n 1, 1) := by decide +kernel
theorem dX6_takeOut_21 : decode cX6_takeOut 21 = .ok (.if_icmp .ne 6, 3) := by decide +kernel
theorem dX6_takeOut_24 : decode cX6_takeOut 24 = .ok (.goto 54, 3) := by decide +kernel
theorem dX6_takeOut_27 : decode cX6_takeOut 27 = .ok (.aload_n 0, 1) := by decide +kernel
theorem dX6_takeOut_28 : decode cX6_takeOut 28 = .ok (.getfield 14, 3) := by decide +kernel
theorem dX6_takeOut_31 : decode cX6_takeOut 31 = .ok (.iload_n 2, 1) := by decide +kernel
theorem dX6_takeOut_32 : decode cX6_takeOut 32 = .ok (.aload_n 0, 1) := by decide +kernel
theorem dX6_takeOut_33 : decode cX6_takeOut 33 = .ok (.getfield 14, 3) := by decide +kernel
theorem dX6_takeOut_36 : decode cX6_takeOut 36 = .ok (.iload_n 3, 1) := by decide +kernel
theorem dX6_takeOut_37 : decode cX6_takeOut 37 = .ok (.invokevirtual 34, 3) := by decide +kernel
theorem dX6_takeOut_40 : decode cX6_takeOut 40 = .ok (.invokevirtual 30, 3) := by decide +kernel
theorem dX6_takeOut_43 : decode cX6_takeOut 43 = .ok (.aload_n 0, 1) := by decide +kernel
theorem dX6_takeOut_44 : decode cX6_takeOut 44 = .ok (.getfield 20, 3) := by decide +kernel
theorem dX6_takeOut_47 : decode cX6_takeOut 47 = .ok (.iload_n 2, 1) := by decide +kernel
theorem dX6_takeOut_48 : decode cX6_takeOut 48 = .ok (.aload_n 0, 1) := by decide +kernel
theorem dX6_takeOut_49 : decode cX6_takeOut 49 = .ok (.getfield 20, 3) := by decide +kernel
theorem dX6_takeOut_52 : decode cX6_takeOut 52 = .ok (.iload_n 3, 1) := by decide +kernel
theorem dX6_takeOut_53 : decode cX6_takeOut 53 = .ok (.invokevirtual 34, 3) := by decide +kernel
theorem dX6_takeOut_56 : decode cX6_takeOut 56 = .ok (.invokevirtual 30, 3) := by decide +kernel
theorem dX6_takeOut_59 : decode cX6_takeOut 59 = .ok (.aload_n 0, 1) := by decide +kernel
theorem dX6_takeOut_60 : decode cX6_takeOut 60 = .ok (.getfield 23, 3) := by decide +kernel
theorem dX6_takeOut_63 : decode cX6_takeOut 63 = .ok (.iload_n 2, 1) := by decide +kernel
theorem dX6_takeOut_64 : decode cX6_takeOut 64 = .ok (.aload_n 0, 1) := by decide +kernel
theorem dX6_takeOut_65 : decode cX6_takeOut 65 = .ok (.getfield 23, 3) := by decide +kernel
theorem dX6_takeOut_68 : decode cX6_takeOut 68 = .ok (.iload_n 3, 1) := by decide +kernel
theorem dX6_takeOut_69 : decode cX6_takeOut 69 = .ok (.invokevirtual 34, 3) := by decide +kernel
theorem dX6_takeOut_72 : decode cX6_takeOut 72 = .ok (.invokevirtual 30, 3) := by decide +kernel
theorem dX6_takeOut_75 : decode cX6_takeOut 75 = .ok (.iinc 2 1, 3) := by decide +kernel
theorem dX6_takeOut_78 : decode cX6_takeOut 78 = .ok (.iinc 3 1, 3) := by decide +kernel
theorem dX6_takeOut_81 : decode cX6_takeOut 81 = .ok (.goto (-77), 3) := by decide +kernel
theorem dX6_takeOut_84 : decode cX6_takeOut 84 = .ok (.aload_n 0, 1) := by decide +kernel
theorem dX6_takeOut_85 : decode cX6_takeOut 85 = .ok (.iload_n 2, 1) := by decide +kernel
theorem dX6_takeOut_86 : decode cX6_takeOut 86 = .ok (.putfield 26, 3) := by decide +kernel
theorem dX6_takeOut_89 : decode cX6_takeOut 89 = .ok (.return_, 1) := by decide +kernel
theorem dX6_closeUp_0 : decode cX6_closeUp 0 = .ok (.iconst 0, 1) := by decide +kernel
theorem dX6_closeUp_1 : decode cX6_closeUp 1 = .ok (.istore_n 2, 1) := by decide +kernel
theorem dX6_closeUp_2 : decode cX6_closeUp 2 = .ok (.iload_n 2, 1) := by decide +kernel
theorem dX6_closeUp_3 : decode cX6_closeUp 3 = .ok (.aload_n 0, 1) := by decide +kernel
theorem dX6_closeUp_4 : decode cX6_closeUp 4 = .ok (.getfield 26, 3) := by decide +kernel
theorem dX6_closeUp_7 : decode cX6_closeUp 7 = .ok (.if_icmp .ge 46, 3) := by decide +kernel
theorem dX6_closeUp_10 : decode cX6_closeUp 10 = .ok (.aload_n 0, 1) := by decide +kernel
theorem dX6_closeUp_11 : decode cX6_closeUp 11 = .ok (.getfield 20, 3) := by decide +kernel
theorem dX6_closeUp_14 : decode cX6_closeUp 14 = .ok (.iload_n 2, 1) := by decide +kernel
theorem dX6_closeUp_15 : decode cX6_closeUp 15 = .ok (.invokevirtual 34, 3) := by decide +kernel
theorem dX6_closeUp_18 : decode cX6_closeUp 18 = .ok (.istore_n 3, 1) := by decide +kernel
theorem dX6_closeUp_19 : decode cX6_closeUp 19 = .ok (.aload_n 0, 1) := by decide +kernel
theorem dX6_closeUp_20 : decode cX6_closeUp 20 = .ok (.getfield 14, 3) := by decide +kernel
theorem dX6_closeUp_23 : decode cX6_closeUp 23 = .ok (.iload_n 2, 1) := by decide +kernel
theorem dX6_closeUp_24 : decode cX6_closeUp 24 = .ok (.invokevirtual 34, 3) := by decide +kernel
theorem dX6_closeUp_27 : decode cX6_closeUp 27 = .ok (.iload_n 1, 1) := by decide +kernel
theorem dX6_closeUp_28 : decode cX6_closeUp 28 = .ok (.if_icmp .eq 19, 3) := by decide +kernel
theorem dX6_closeUp_31 : decode cX6_closeUp 31 = .ok (.aload_n 0, 1) := by decide +kernel
theorem dX6_closeUp_32 : decode cX6_closeUp 32 = .ok (.getfield 20, 3) := by decide +kernel
theorem dX6_closeUp_35 : decode cX6_closeUp 35 = .ok (.iload_n 2, 1) := by decide +kernel
theorem dX6_closeUp_36 : decode cX6_closeUp 36 = .ok (.iload_n 3, 1) := by decide +kernel
theorem dX6_closeUp_37 : decode cX6_closeUp 37 = .ok (.aload_n 0, 1) := by decide +kernel
theorem dX6_closeUp_38 : decode cX6_closeUp 38 = .ok (.iload_n 3, 1) := by decide +kernel
theorem dX6_closeUp_39 : decode cX6_closeUp 39 = .ok (.iload_n 1, 1) := by decide +kernel
theorem dX6_closeUp_40 : decode cX6_closeUp 40 = .ok (.invokevirtual 38, 3) := by decide +kernel
theorem dX6_closeUp_43 : decode cX6_closeUp 43 = .ok (.isub, 1) := by decide +kernel
theorem dX6_closeUp_44 : decode cX6_closeUp 44 = .ok (.invokevirtual 30, 3) := by decide +kernel
theorem dX6_closeUp_47 : decode cX6_closeUp 47 = .ok (.iinc 2 1, 3) := by decide +kernel
theorem dX6_closeUp_50 : decode cX6_closeUp 50 = .ok (.goto (-48), 3) := by decide +kernel
theorem dX6_closeUp_53 : decode cX6_closeUp 53 = .ok (.aload_n 0, 1) := by decide +kernel
theorem dX6_closeUp_54 : decode cX6_closeUp 54 = .ok (.iload_n 1, 1) := by decide +kernel
theorem dX6_closeUp_55 : decode cX6_closeUp 55 = .ok (.invokevirtual 42, 3) := by decide +kernel
theorem dX6_closeUp_58 : decode cX6_closeUp 58 = .ok (.return_, 1) := by decide +kernel
theorem dX6_putBeside_0 : decode cX6_putBeside 0 = .ok (.aload_n 0, 1) := by decide +kernel
theorem dX6_putBeside_1 : decode cX6_putBeside 1 = .ok (.getfield 26, 3) := by decide +kernel
theorem dX6_putBeside_4 : decode cX6_putBeside 4 = .ok (.istore_n 3, 1) := by decide +kernel
theorem dX6_putBeside_5 : decode cX6_putBeside 5 = .ok (.iconst 0, 1) := by decide +kernel
theorem dX6_putBeside_6 : decode cX6_putBeside 6 = .ok (.istore 4, 2) := by decide +kernel
theorem dX6_putBeside_8 : decode cX6_putBeside 8 = .ok (.iload 4, 2) := by decide +kernel
theorem dX6_putBeside_10 : decode cX6_putBeside 10 = .ok (.iload_n 3, 1) := by decide +kernel
theorem dX6_putBeside_11 : decode cX6_putBeside 11 = .ok (.if_icmp .ge 57, 3) := by decide +kernel
theorem dX6_putBeside_14 : decode cX6_putBeside 14 = .ok (.aload_n 0, 1) := by decide +kernel
theorem dX6_putBeside_15 : decode cX6_putBeside 15 = .ok (.getfield 20, 3) := by decide +kernel
theorem dX6_putBeside_18 : decode cX6_putBeside 18 = .ok (.iload 4, 2) := by decide +kernel
theorem dX6_putBeside_20 : decode cX6_putBeside 20 = .ok (.invokevirtual 34, 3) := by decide +kernel
theorem dX6_putBeside_23 : decode cX6_putBeside 23 = .ok (.istore 5, 2) := by decide +kernel
theorem dX6_putBeside_25 : decode cX6_putBeside 25 = .ok (.aload_n 0, 1) := by decide +kernel
theorem dX6_putBeside_26 : decode cX6_putBeside 26 = .ok (.getfield 14, 3) := by decide +kernel
theorem dX6_putBeside_29 : decode cX6_putBeside 29 = .ok (.iload 4, 2) := by decide +kernel
theorem dX6_putBeside_31 : decode cX6_putBeside 31 = .ok (.invokevirtual 34, 3) := by decide +kernel
theorem dX6_putBeside_34 : decode cX6_putBeside 34 = .ok (.iload_n 1, 1) := by decide +kernel
theorem dX6_putBeside_35 : decode cX6_putBeside 35 = .ok (.if_icmp .ne 27, 3) := by decide +kernel
theorem dX6_putBeside_38 : decode cX6_putBeside 38 = .ok (.aload_n 0, 1) := by decide +kernel
theorem dX6_putBeside_39 : decode cX6_putBeside 39 = .ok (.iload 5, 2) := by decide +kernel
theorem dX6_putBeside_41 : decode cX6_putBeside 41 = .ok (.iload_n 2, 1) := by decide +kernel
theorem dX6_putBeside_42 : decode cX6_putBeside 42 = .ok (.invokevirtual 45, 3) := by decide +kernel
theorem dX6_putBeside_45 : decode cX6_putBeside 45 = .ok (.ifCond .ne 17, 3) := by decide +kernel
theorem dX6_putBeside_48 : decode cX6_putBeside 48 = .ok (.aload_n 0, 1) := by decide +kernel
theorem dX6_putBeside_49 : decode cX6_putBeside 49 = .ok (.iload_n 2, 1) := by decide +kernel
theorem dX6_putBeside_50 : decode cX6_putBeside 50 = .ok (.iload 5, 2) := by decide +kernel
theorem dX6_putBeside_52 : decode cX6_putBeside 52 = .ok (.aload_n 0, 1) := by decide +kernel
theorem dX6_putBeside_53 : decode cX6_putBeside 53 = .ok (.iload 5, 2) := by decide +kernel
theorem dX6_putBeside_55 : decode cX6_putBeside 55 = .ok (.iload_n 1, 1) := by decide +kernel
theorem dX6_putBeside_56 : decode cX6_putBeside 56 = .ok (.invokevirtual 48, 3) := by decide +kernel
theorem dX6_putBeside_59 : decode cX6_putBeside 59 = .ok (.invokevirtual 51, 3) := by decide +kernel
theorem dX6_putBeside_62 : decode cX6_putBeside 62 = .ok (.iinc 4 1, 3) := by decide +kernel
theorem dX6_putBeside_65 : decode cX6_putBeside 65 = .ok (.goto (-57), 3) := by decide +kernel
theorem dX6_putBeside_68 : decode cX6_putBeside 68 = .ok (.return_, 1) := by decide +kernel
theorem dX6_times_0 : decode cX6_times 0 = .ok (.iconst 0, 1) := by decide +kernel
theorem dX6_times_1 : decode cX6_times 1 = .ok (.istore_n 2, 1) := by decide +kernel
theorem dX6_times_2 : decode cX6_times 2 = .ok (.iconst 0, 1) := by decide +kernel
theorem dX6_times_3 : decode cX6_times 3 = .ok (.istore_n 3, 1) := by decide +kernel
theorem dX6_times_4 : decode cX6_times 4 = .ok (.iload_n 3, 1) := by decide +kernel
theorem dX6_times_5 : decode cX6_times 5 = .ok (.aload_n 0, 1) := by decide +kernel
theorem dX6_times_6 : decode cX6_times 6 = .ok (.getfield 26, 3) := by decide +kernel
theorem dX6_times_9 : decode cX6_times 9 = .ok (.if_icmp .ge 24, 3) := by decide +kernel
theorem dX6_times_12 : decode cX6_times 12 = .ok (.aload_n 0, 1) := by decide +kernel
theorem dX6_times_13 : decode cX6_times 13 = .ok (.getfield 14, 3) := by decide +kernel
theorem dX6_times_16 : decode cX6_times 16 = .ok (.iload_n 3, 1) := by decide +kernel
theorem dX6_times_17 : decode cX6_times 17 = .ok (.invokevirtual 34, 3) := by decide +kernel
theorem dX6_times_20 : decode cX6_times 20 = .ok (.iload_n 1, 1) := by decide +kernel
theorem dX6_times_21 : decode cX6_times 21 = .ok (.if_icmp .ne 6, 3) := by decide +kernel
theorem dX6_times_24 : decode cX6_times 24 = .ok (.iinc 2 1, 3) := by decide +kernel
theorem dX6_times_27 : decode cX6_times 27 = .ok (.iinc 3 1, 3) := by decide +kernel
theorem dX6_times_30 : decode cX6_times 30 = .ok (.goto (-26), 3) := by decide +kernel
theorem dX6_times_33 : decode cX6_times 33 = .ok (.iload_n 2, 1) := by decide +kernel
theorem dX6_times_34 : decode cX6_times 34 = .ok (.ireturn, 1) := by decide +kernel
theorem dX6_timesAt_0 : decode cX6_timesAt 0 = .ok (.iconst 0, 1) := by decide +kernel
theorem dX6_timesAt_1 : decode cX6_timesAt 1 = .ok (.istore_n 3, 1) := by decide +kernel
theorem dX6_timesAt_2 : decode cX6_timesAt 2 = .ok (.iconst 0, 1) := by decide +kernel
theorem dX6_timesAt_3 : decode cX6_timesAt 3 = .ok (.istore 4, 2) := by decide +kernel
theorem dX6_timesAt_5 : decode cX6_timesAt 5 = .ok (.iload 4, 2) := by decide +kernel
theorem dX6_timesAt_7 : decode cX6_timesAt 7 = .ok (.aload_n 0, 1) := by decide +kernel
theorem dX6_timesAt_8 : decode cX6_timesAt 8 = .ok (.getfield 26, 3) := by decide +kernel
theorem dX6_timesAt_11 : decode cX6_timesAt 11 = .ok (.if_icmp .ge 38, 3) := by decide +kernel
theorem dX6_timesAt_14 : decode cX6_timesAt 14 = .ok (.aload_n 0, 1) := by decide +kernel
theorem dX6_timesAt_15 : decode cX6_timesAt 15 = .ok (.getfield 14, 3) := by decide +kernel
theorem dX6_timesAt_18 : decode cX6_timesAt 18 = .ok (.iload 4, 2) := by decide +kernel
theorem dX6_timesAt_20 : decode cX6_timesAt 20 = .ok (.invokevirtual 34, 3) := by decide +kernel
theorem dX6_timesAt_23 : decode cX6_timesAt 23 = .ok (.iload_n 2, 1) := by decide +kernel
theorem dX6_timesAt_24 : decode cX6_timesAt 24 = .ok (.if_icmp .ne 19, 3) := by decide +kernel
theorem dX6_timesAt_27 : decode cX6_timesAt 27 = .ok (.aload_n 0, 1) := by decide +kernel
theorem dX6_timesAt_28 : decode cX6_timesAt 28 = .ok (.getfield 20, 3) := by decide +kernel
theorem dX6_timesAt_31 : decode cX6_timesAt 31 = .ok (.iload 4, 2) := by decide +kernel
theorem dX6_timesAt_33 : decode cX6_timesAt 33 = .ok (.invokevirtual 34, 3) := by decide +kernel
theorem dX6_timesAt_36 : decode cX6_timesAt 36 = .ok (.iload_n 1, 1) := by decide +kernel
theorem dX6_timesAt_37 : decode cX6_timesAt 37 = .ok (.if_icmp .ne 6, 3) := by decide +kernel
theorem dX6_timesAt_40 : decode cX6_timesAt 40 = .ok (.iinc 3 1, 3) := by decide +kernel
theorem dX6_timesAt_43 : decode cX6_timesAt 43 = .ok (.iinc 4 1, 3) := by decide +kernel
theorem dX6_timesAt_46 : decode cX6_timesAt 46 = .ok (.goto (-41), 3) := by decide +kernel
theorem dX6_timesAt_49 : decode cX6_timesAt 49 = .ok (.iload_n 3, 1) := by decide +kernel
theorem dX6_timesAt_50 : decode cX6_timesAt 50 = .ok (.ireturn, 1) := by decide +kernel
theorem dX6_isFirstAtPlace_0 : decode cX6_isFirstAtPlace 0 = .ok (.iconst 0, 1) := by decide +kernel
theorem dX6_isFirstAtPlace_1 : decode cX6_isFirstAtPlace 1 = .ok (.istore_n 2, 1) := by decide +kernel
theorem dX6_isFirstAtPlace_2 : decode cX6_isFirstAtPlace 2 = .ok (.iload_n 2, 1) := by decide +kernel
theorem dX6_isFirstAtPlace_3 : decode cX6_isFirstAtPlace 3 = .ok (.iload_n 1, 1) := by decide +kernel
theorem dX6_isFirstAtPlace_4 : decode cX6_isFirstAtPlace 4 = .ok (.if_icmp .ge 49, 3) := by decide +kernel
theorem dX6_isFirstAtPlace_7 : decode cX6_isFirstAtPlace 7 = .ok (.aload_n 0, 1) := by decide +kernel
theorem dX6_isFirstAtPlace_8 : decode cX6_isFirstAtPlace 8 = .ok (.getfield 14, 3) := by decide +kernel
theorem dX6_isFirstAtPlace_11 : decode cX6_isFirstAtPlace 11 = .ok (.iload_n 2, 1) := by decide +kernel
theorem dX6_isFirstAtPlace_12 : decode cX6_isFirstAtPlace 12 = .ok (.invokevirtual 34, 3) := by decide +kernel
theorem dX6_isFirstAtPlace_15 : decode cX6_isFirstAtPlace 15 = .ok (.aload_n 0, 1) := by decide +kernel
theorem dX6_isFirstAtPlace_16 : decode cX6_isFirstAtPlace 16 = .ok (.getfield 14, 3) := by decide +kernel
theorem dX6_isFirstAtPlace_19 : decode cX6_isFirstAtPlace 19 = .ok (.iload_n 1, 1) := by decide +kernel
theorem dX6_isFirstAtPlace_20 : decode cX6_isFirstAtPlace 20 = .ok (.invokevirtual 34, 3) := by decide +kernel
theorem dX6_isFirstAtPlace_23 : decode cX6_isFirstAtPlace 23 = .ok (.if_icmp .ne 24, 3) := by decide +kernel
theorem dX6_isFirstAtPlace_26 : decode cX6_isFirstAtPlace 26 = .ok (.aload_n 0, 1) := by decide +kernel
theorem dX6_isFirstAtPlace_27 : decode cX6_isFirstAtPlace 27 = .ok (.getfield 20, 3) := by decide +kernel
theorem dX6_isFirstAtPlace_30 : decode cX6_isFirstAtPlace 30 = .ok (.iload_n 2, 1) := by decide +kernel
theorem dX6_isFirstAtPlace_31 : decode cX6_isFirstAtPlace 31 = .ok (.invokevirtual 34, 3) := by decide +kernel
theorem dX6_isFirstAtPlace_34 : decode cX6_isFirstAtPlace 34 = .ok (.aload_n 0, 1) := by decide +kernel
theorem dX6_isFirstAtPlace_35 : decode cX6_isFirstAtPlace 35 = .ok (.getfield 20, 3) := by decide +kernel
theorem dX6_isFirstAtPlace_38 : decode cX6_isFirstAtPlace 38 = .ok (.iload_n 1, 1) := by decide +kernel
theorem dX6_isFirstAtPlace_39 : decode cX6_isFirstAtPlace 39 = .ok (.invokevirtual 34, 3) := by decide +kernel
theorem dX6_isFirstAtPlace_42 : decode cX6_isFirstAtPlace 42 = .ok (.if_icmp .ne 5, 3) := by decide +kernel
theorem dX6_isFirstAtPlace_45 : decode cX6_isFirstAtPlace 45 = .ok (.iconst 0, 1) := by decide +kernel
theorem dX6_isFirstAtPlace_46 : decode cX6_isFirstAtPlace 46 = .ok (.ireturn, 1) := by decide +kernel
theorem dX6_isFirstAtPlace_47 : decode cX6_isFirstAtPlace 47 = .ok (.iinc 2 1, 3) := by decide +kernel
theorem dX6_isFirstAtPlace_50 : decode cX6_isFirstAtPlace 50 = .ok (.goto (-48), 3) := by decide +kernel
theorem dX6_isFirstAtPlace_53 : decode cX6_isFirstAtPlace 53 = .ok (.iconst 1, 1) := by decide +kernel
theorem dX6_isFirstAtPlace_54 : decode cX6_isFirstAtPlace 54 = .ok (.ireturn, 1) := by decide +kernel
theorem dX6_timesAhead_0 : decode cX6_timesAhead 0 = .ok (.iconst 0, 1) := by decide +kernel
theorem dX6_timesAhead_1 : decode cX6_timesAhead 1 = .ok (.istore_n 3, 1) := by decide +kernel
theorem dX6_timesAhead_2 : decode cX6_timesAhead 2 = .ok (.iconst 0, 1) := by decide +kernel
theorem dX6_timesAhead_3 : decode cX6_timesAhead 3 = .ok (.istore 4, 2) := by decide +kernel
theorem dX6_timesAhead_5 : decode cX6_timesAhead 5 = .ok (.iload 4, 2) := by decide +kernel
theorem dX6_timesAhead_7 : decode cX6_timesAhead 7 = .ok (.aload_n 0, 1) := by decide +kernel
theorem dX6_timesAhead_8 : decode cX6_timesAhead 8 = .ok (.getfield 26, 3) := by decide +kernel
theorem dX6_timesAhead_11 : decode cX6_timesAhead 11 = .ok (.if_icmp .ge 38, 3) := by decide +kernel
theorem dX6_timesAhead_14 : decode cX6_timesAhead 14 = .ok (.aload_n 0, 1) := by decide +kernel
theorem dX6_timesAhead_15 : decode cX6_timesAhead 15 = .ok (.getfield 14, 3) := by decide +kernel
theorem dX6_timesAhead_18 : decode cX6_timesAhead 18 = .ok (.iload 4, 2) := by decide +kernel
theorem dX6_timesAhead_20 : decode cX6_timesAhead 20 = .ok (.invokevirtual 34, 3) := by decide +kernel
theorem dX6_timesAhead_23 : decode cX6_timesAhead 23 = .ok (.iload_n 2, 1) := by decide +kernel
theorem dX6_timesAhead_24 : decode cX6_timesAhead 24 = .ok (.if_icmp .ne 19, 3) := by decide +kernel
theorem dX6_timesAhead_27 : decode cX6_timesAhead 27 = .ok (.aload_n 0, 1) := by decide +kernel
theorem dX6_timesAhead_28 : decode cX6_timesAhead 28 = .ok (.getfield 20, 3) := by decide +kernel
theorem dX6_timesAhead_31 : decode cX6_timesAhead 31 = .ok (.iload 4, 2) := by decide +kernel
theorem dX6_timesAhead_33 : decode cX6_timesAhead 33 = .ok (.invokevirtual 34, 3) := by decide +kernel
theorem dX6_timesAhead_36 : decode cX6_timesAhead 36 = .ok (.iload_n 1, 1) := by decide +kernel
theorem dX6_timesAhead_37 : decode cX6_timesAhead 37 = .ok (.if_icmp .ge 6, 3) := by decide +kernel
theorem dX6_timesAhead_40 : decode cX6_timesAhead 40 = .ok (.iinc 3 1, 3) := by decide +kernel
theorem dX6_timesAhead_43 : decode cX6_timesAhead 43 = .ok (.iinc 4 1, 3) := by decide +kernel
theorem dX6_timesAhead_46 : decode cX6_timesAhead 46 = .ok (.goto (-41), 3) := by decide +kernel
theorem dX6_timesAhead_49 : decode cX6_timesAhead 49 = .ok (.iload_n 3, 1) := by decide +kernel
theorem dX6_timesAhead_50 : decode cX6_timesAhead 50 = .ok (.ireturn, 1) := by decide +kernel
theorem dX6_firstIndexAt_0 : decode cX6_firstIndexAt 0 = .ok (.bipush 12, 2) := by decide +kernel
theorem dX6_firstIndexAt_2 : decode cX6_firstIndexAt 2 = .ok (.istore_n 3, 1) := by decide +kernel
theorem dX6_firstIndexAt_3 : decode cX6_firstIndexAt 3 = .ok (.iconst 0, 1) := by decide +kernel
theorem dX6_firstIndexAt_4 : decode cX6_firstIndexAt 4 = .ok (.istore 4, 2) := by decide +kernel
theorem dX6_firstIndexAt_6 : decode cX6_firstIndexAt 6 = .ok (.iload 4, 2) := by decide +kernel
theorem dX6_firstIndexAt_8 : decode cX6_firstIndexAt 8 = .ok (.aload_n 0, 1) := by decide +kernel
theorem dX6_firstIndexAt_9 : decode cX6_firstIndexAt 9 = .ok (.getfield 26, 3) := by decide +kernel
theorem dX6_firstIndexAt_12 : decode cX6_firstIndexAt 12 = .ok (.if_icmp .ge 70, 3) := by decide +kernel
theorem dX6_firstIndexAt_15 : decode cX6_firstIndexAt 15 = .ok (.aload_n 0, 1) := by decide +kernel
theorem dX6_firstIndexAt_16 : decode cX6_firstIndexAt 16 = .ok (.getfield 14, 3) := by decide +kernel
theorem dX6_firstIndexAt_19 : decode cX6_firstIndexAt 19 = .ok (.iload 4, 2) := by decide +kernel
theorem dX6_firstIndexAt_21 : decode cX6_firstIndexAt 21 = .ok (.invokevirtual 34, 3) := by decide +kernel
theorem dX6_firstIndexAt_24 : decode cX6_firstIndexAt 24 = .ok (.iload_n 2, 1) := by decide +kernel
theorem dX6_firstIndexAt_25 : decode cX6_firstIndexAt 25 = .ok (.if_icmp .ne 20, 3) := by decide +kernel
theorem dX6_firstIndexAt_28 : decode cX6_firstIndexAt 28 = .ok (.aload_n 0, 1) := by decide +kernel
theorem dX6_firstIndexAt_29 : decode cX6_firstIndexAt 29 = .ok (.getfield 20, 3) := by decide +kernel
theorem dX6_firstIndexAt_32 : decode cX6_firstIndexAt 32 = .ok (.iload 4, 2) := by decide +kernel
theorem dX6_firstIndexAt_34 : decode cX6_firstIndexAt 34 = .ok (.invokevirtual 34, 3) := by decide +kernel
theorem dX6_firstIndexAt_37 : decode cX6_firstIndexAt 37 = .ok (.iload_n 1, 1) := by decide +kernel
theorem dX6_firstIndexAt_38 : decode cX6_firstIndexAt 38 = .ok (.if_icmp .ne 7, 3) := by decide +kernel
theorem dX6_firstIndexAt_41 : decode cX6_firstIndexAt 41 = .ok (.iconst 1, 1) := by decide +kernel
theorem dX6_firstIndexAt_42 : decode cX6_firstIndexAt 42 = .ok (.goto 4, 3) := by decide +kernel
theorem dX6_firstIndexAt_45 : decode cX6_firstIndexAt 45 = .ok (.iconst 0, 1) := by decide +kernel
theorem dX6_firstIndexAt_46 : decode cX6_firstIndexAt 46 = .ok (.istore 5, 2) := by decide +kernel
theorem dX6_firstIndexAt_48 : decode cX6_firstIndexAt 48 = .ok (.iload 5, 2) := by decide +kernel
theorem dX6_firstIndexAt_50 : decode cX6_firstIndexAt 50 = .ok (.ifCond .eq 26, 3) := by decide +kernel
theorem dX6_firstIndexAt_53 : decode cX6_firstIndexAt 53 = .ok (.aload_n 0, 1) := by decide +kernel
theorem dX6_firstIndexAt_54 : decode cX6_firstIndexAt 54 = .ok (.getfield 23, 3) := by decide +kernel
theorem dX6_firstIndexAt_57 : decode cX6_firstIndexAt 57 = .ok (.iload 4, 2) := by decide +kernel
theorem dX6_firstIndexAt_59 : decode cX6_firstIndexAt 59 = .ok (.invokevirtual 34, 3) := by decide +kernel
theorem dX6_firstIndexAt_62 : decode cX6_firstIndexAt 62 = .ok (.iload_n 3, 1) := by decide +kernel
theorem dX6_firstIndexAt_63 : decode cX6_firstIndexAt 63 = .ok (.if_icmp .ge 13, 3) := by decide +kernel
theorem dX6_firstIndexAt_66 : decode cX6_firstIndexAt 66 = .ok (.aload_n 0, 1) := by decide +kernel
theorem dX6_firstIndexAt_67 : decode cX6_firstIndexAt 67 = .ok (.getfield 23, 3) := by decide +kernel
theorem dX6_firstIndexAt_70 : decode cX6_firstIndexAt 70 = .ok (.iload 4, 2) := by decide +kernel
theorem dX6_firstIndexAt_72 : decode cX6_firstIndexAt 72 = .ok (.invokevirtual 34, 3) := by decide +kernel
theorem dX6_firstIndexAt_75 : decode cX6_firstIndexAt 75 = .ok (.istore_n 3, 1) := by decide +kernel
theorem dX6_firstIndexAt_76 : decode cX6_firstIndexAt 76 = .ok (.iinc 4 1, 3) := by decide +kernel
theorem dX6_firstIndexAt_79 : decode cX6_firstIndexAt 79 = .ok (.goto (-73), 3) := by decide +kernel
theorem dX6_firstIndexAt_82 : decode cX6_firstIndexAt 82 = .ok (.iload_n 3, 1) := by decide +kernel
theorem dX6_firstIndexAt_83 : decode cX6_firstIndexAt 83 = .ok (.ireturn, 1) := by decide +kernel
theorem dX7_init_0 : decode cX7_init 0 = .ok (.aload_n 0, 1) := by decide +kernel
theorem dX7_init_1 : decode cX7_init 1 = .ok (.invokespecial 1, 3) := by decide +kernel
theorem dX7_init_4 : decode cX7_init 4 = .ok (.aload_n 0, 1) := by decide +kernel
theorem dX7_init_5 : decode cX7_init 5 = .ok (.iload_n 1, 1) := by decide +kernel
theorem dX7_init_6 : decode cX7_init 6 = .ok (.putfield 7, 3) := by decide +kernel
theorem dX7_init_9 : decode cX7_init 9 = .ok (.aload_n 0, 1) := by decide +kernel
theorem dX7_init_10 : decode cX7_init 10 = .ok (.aload_n 2, 1) := by decide +kernel
theorem dX7_init_11 : decode cX7_init 11 = .ok (.putfield 13, 3) := by decide +kernel
theorem dX7_init_14 : decode cX7_init 14 = .ok (.aload_n 0, 1) := by decide +kernel
theorem dX7_init_15 : decode cX7_init 15 = .ok (.iload_n 3, 1) := by decide +kernel
theorem dX7_init_16 : decode cX7_init 16 = .ok (.putfield 17, 3) := by decide +kernel
theorem dX7_init_19 : decode cX7_init 19 = .ok (.return_, 1) := by decide +kernel
theorem dX7_sees_0 : decode cX7_sees 0 = .ok (.aload_n 0, 1) := by decide +kernel
theorem dX7_sees_1 : decode cX7_sees 1 = .ok (.getfield 13, 3) := by decide +kernel
theorem dX7_sees_4 : decode cX7_sees 4 = .ok (.iload_n 1, 1) := by decide +kernel
theorem dX7_sees_5 : decode cX7_sees 5 = .ok (.invokevirtual 20, 3) := by decide +kernel
theorem dX7_sees_8 : decode cX7_sees 8 = .ok (.iconst 1, 1) := by decide +kernel
theorem dX7_sees_9 : decode cX7_sees 9 = .ok (.if_icmp .ne 7, 3) := by decide +kernel
theorem dX7_sees_12 : decode cX7_sees 12 = .ok (.iconst 1, 1) := by decide +kernel
theorem dX7_sees_13 : decode cX7_sees 13 = .ok (.goto 4, 3) := by decide +kernel
theorem dX7_sees_16 : decode cX7_sees 16 = .ok (.iconst 0, 1) := by decide +kernel
theorem dX7_sees_17 : decode cX7_sees 17 = .ok (.ireturn, 1) := by decide +kernel
theorem dX7_checkSees_0 : decode cX7_checkSees 0 = .ok (.aload_n 0, 1) := by decide +kernel
theorem dX7_checkSees_1 : decode cX7_checkSees 1 = .ok (.iload_n 1, 1) := by decide +kernel
theorem dX7_checkSees_2 : decode cX7_checkSees 2 = .ok (.invokevirtual 26, 3) := by decide +kernel
theorem dX7_checkSees_5 : decode cX7_checkSees 5 = .ok (.ifCond .ne 13, 3) := by decide +kernel
theorem dX7_checkSees_8 : decode cX7_checkSees 8 = .ok (.new 30, 3) := by decide +kernel
theorem dX7_checkSees_11 : decode cX7_checkSees 11 = .ok (.dup, 1) := by decide +kernel
theorem dX7_checkSees_12 : decode cX7_checkSees 12 = .ok (.ldc 32, 2) := by decide +kernel
theorem dX7_checkSees_14 : decode cX7_checkSees 14 = .ok (.invokespecial 34, 3) := by decide +kernel
theorem dX7_checkSees_17 : decode cX7_checkSees 17 = .ok (.athrow, 1) := by decide +kernel
theorem dX7_checkSees_18 : decode cX7_checkSees 18 = .ok (.return_, 1) := by decide +kernel
theorem dX8_init_0 : decode cX8_init 0 = .ok (.aload_n 0, 1) := by decide +kernel
theorem dX8_init_1 : decode cX8_init 1 = .ok (.invokespecial 3, 3) := by decide +kernel
theorem dX8_init_4 : decode cX8_init 4 = .ok (.aload_n 0, 1) := by decide +kernel
theorem dX8_init_5 : decode cX8_init 5 = .ok (.new 9, 3) := by decide +kernel
theorem dX8_init_8 : decode cX8_init 8 = .ok (.dup, 1) := by decide +kernel
theorem dX8_init_9 : decode cX8_init 9 = .ok (.invokespecial 11, 3) := by decide +kernel
theorem dX8_init_12 : decode cX8_init 12 = .ok (.putfield 12, 3) := by decide +kernel
theorem dX8_init_15 : decode cX8_init 15 = .ok (.aload_n 0, 1) := by decide +kernel
theorem dX8_init_16 : decode cX8_init 16 = .ok (.new 9, 3) := by decide +kernel
theorem dX8_init_19 : decode cX8_init 19 = .ok (.dup, 1) := by decide +kernel
theorem dX8_init_20 : decode cX8_init 20 = .ok (.invokespecial 11, 3) := by decide +kernel
theorem dX8_init_23 : decode cX8_init 23 = .ok (.putfield 16, 3) := by decide +kernel
theorem dX8_init_26 : decode cX8_init 26 = .ok (.aload_n 0, 1) := by decide +kernel
theorem dX8_init_27 : decode cX8_init 27 = .ok (.new 9, 3) := by decide +kernel
theorem dX8_init_30 : decode cX8_init 30 = .ok (.dup, 1) := by decide +kernel
theorem dX8_init_31 : decode cX8_init 31 = .ok (.invokespecial 11, 3) := by decide +kernel
theorem dX8_init_34 : decode cX8_init 34 = .ok (.putfield 19, 3) := by decide +kernel
theorem dX8_init_37 : decode cX8_init 37 = .ok (.aload_n 0, 1) := by decide +kernel
theorem dX8_init_38 : decode cX8_init 38 = .ok (.new 9, 3) := by decide +kernel
theorem dX8_init_41 : decode cX8_init 41 = .ok (.dup, 1) := by decide +kernel
theorem dX8_init_42 : decode cX8_init 42 = .ok (.invokespecial 11, 3) := by decide +kernel
theorem dX8_init_45 : decode cX8_init 45 = .ok (.putfield 22, 3) := by decide +kernel
theorem dX8_init_48 : decode cX8_init 48 = .ok (.aload_n 0, 1) := by decide +kernel
theorem dX8_init_49 : decode cX8_init 49 = .ok (.new 25, 3) := by decide +kernel
theorem dX8_init_52 : decode cX8_init 52 = .ok (.dup, 1) := by decide +kernel
theorem dX8_init_53 : decode cX8_init 53 = .ok (.invokespecial 27, 3) := by decide +kernel
theorem dX8_init_56 : decode cX8_init 56 = .ok (.putfield 28, 3) := by decide +kernel
theorem dX8_init_59 : decode cX8_init 59 = .ok (.aload_n 0, 1) := by decide +kernel
theorem dX8_init_60 : decode cX8_init 60 = .ok (.new 25, 3) := by decide +kernel
theorem dX8_init_63 : decode cX8_init 63 = .ok (.dup, 1) := by decide +kernel
theorem dX8_init_64 : decode cX8_init 64 = .ok (.invokespecial 27, 3) := by decide +kernel
theorem dX8_init_67 : decode cX8_init 67 = .ok (.putfield 32, 3) := by decide +kernel
theorem dX8_init_70 : decode cX8_init 70 = .ok (.aload_n 0, 1) := by decide +kernel
theorem dX8_init_71 : decode cX8_init 71 = .ok (.new 35, 3) := by decide +kernel
theorem dX8_init_74 : decode cX8_init 74 = .ok (.dup, 1) := by decide +kernel
theorem dX8_init_75 : decode cX8_init 75 = .ok (.bipush 30, 2) := by decide +kernel
theorem dX8_init_77 : decode cX8_init 77 = .ok (.invokespecial 37, 3) := by decide +kernel
theorem dX8_init_80 : decode cX8_init 80 = .ok (.putfield 40, 3) := by decide +kernel
theorem dX8_init_83 : decode cX8_init 83 = .ok (.aload_n 0, 1) := by decide +kernel
theorem dX8_init_84 : decode cX8_init 84 = .ok (.new 44, 3) := by decide +kernel
theorem dX8_init_87 : decode cX8_init 87 = .ok (.dup, 1) := by decide +kernel
theorem dX8_init_88 : decode cX8_init 88 = .ok (.invokespecial 46, 3) := by decide +kernel
theorem dX8_init_91 : decode cX8_init 91 = .ok (.putfield 47, 3) := by decide +kernel
theorem dX8_init_94 : decode cX8_init 94 = .ok (.return_, 1) := by decide +kernel
theorem dX8_addStep_0 : decode cX8_addStep 0 = .ok (.iload_n 1, 1) := by decide +kernel
theorem dX8_addStep_1 : decode cX8_addStep 1 = .ok (.iload_n 2, 1) := by decide +kernel
theorem dX8_addStep_2 : decode cX8_addStep 2 = .ok (.iload_n 3, 1) := by decide +kernel
theorem dX8_addStep_3 : decode cX8_addStep 3 = .ok (.invokestatic 51, 3) := by decide +kernel
theorem dX8_addStep_6 : decode cX8_addStep 6 = .ok (.ifCond .ne 13, 3) := by decide +kernel
theorem dX8_addStep_9 : decode cX8_addStep 9 = .ok (.new 57, 3) := by decide +kernel
theorem dX8_addStep_12 : decode cX8_addStep 12 = .ok (.dup, 1) := by decide +kernel
theorem dX8_addStep_13 : decode cX8_addStep 13 = .ok (.ldc 59, 2) := by decide +kernel
theorem dX8_addStep_15 : decode cX8_addStep 15 = .ok (.invokespecial 61, 3) := by decide +kernel
theorem dX8_addStep_18 : decode cX8_addStep 18 = .ok (.athrow, 1) := by decide +kernel
theorem dX8_addStep_19 : decode cX8_addStep 19 = .ok (.aload_n 0, 1) := by decide +kernel
theorem dX8_addStep_20 : decode cX8_addStep 20 = .ok (.getfield 12, 3) := by decide +kernel
theorem dX8_addStep_23 : decode cX8_addStep 23 = .ok (.invokevirtual 64, 3) := by decide +kernel
theorem dX8_addStep_26 : decode cX8_addStep 26 = .ok (.bipush 6, 2) := by decide +kernel
theorem dX8_addStep_28 : decode cX8_addStep 28 = .ok (.if_icmp .lt 13, 3) := by decide +kernel
theorem dX8_addStep_31 : decode cX8_addStep 31 = .ok (.new 68, 3) := by decide +kernel
theorem dX8_addStep_34 : decode cX8_addStep 34 = .ok (.dup, 1) := by decide +kernel
theorem dX8_addStep_35 : decode cX8_addStep 35 = .ok (.ldc 70, 2) := by decide +kernel
theorem dX8_addStep_37 : decode cX8_addStep 37 = .ok (.invokespecial 72, 3) := by decide +kernel
theorem dX8_addStep_40 : decode cX8_addStep 40 = .ok (.athrow, 1) := by decide +kernel
theorem dX8_addStep_41 : decode cX8_addStep 41 = .ok (.aload_n 0, 1) := by decide +kernel
theorem dX8_addStep_42 : decode cX8_addStep 42 = .ok (.getfield 12, 3) := by decide +kernel
theorem dX8_addStep_45 : decode cX8_addStep 45 = .ok (.new 52, 3) := by decide +kernel
theorem dX8_addStep_48 : decode cX8_addStep 48 = .ok (.dup, 1) := by decide +kernel
theorem dX8_addStep_49 : decode cX8_addStep 49 = .ok (.iload_n 1, 1) := by decide +kernel
theorem dX8_addStep_50 : decode cX8_addStep 50 = .ok (.iload_n 2, 1) := by decide +kernel
theorem dX8_addStep_51 : decode cX8_addStep 51 = .ok (.iload_n 3, 1) := by decide +kernel
theorem dX8_addStep_52 : decode cX8_addStep 52 = .ok (.invokespecial 73, 3) := by decide +kernel
theorem dX8_addStep_55 : decode cX8_addStep 55 = .ok (.invokevirtual 76, 3) := by decide +kernel
theorem dX8_addStep_58 : decode cX8_addStep 58 = .ok (.pop, 1) := by decide +kernel
theorem dX8_addStep_59 : decode cX8_addStep 59 = .ok (.aload_n 0, 1) := by decide +kernel
theorem dX8_addStep_60 : decode cX8_addStep 60 = .ok (.getfield 12, 3) := by decide +kernel
theorem dX8_addStep_63 : decode cX8_addStep 63 = .ok (.invokevirtual 64, 3) := by decide +kernel
theorem dX8_addStep_66 : decode cX8_addStep 66 = .ok (.ireturn, 1) := by decide +kernel
theorem dX8_dropSteps_0 : decode cX8_dropSteps 0 = .ok (.aload_n 0, 1) := by decide +kernel
theorem dX8_dropSteps_1 : decode cX8_dropSteps 1 = .ok (.getfield 12, 3) := by decide +kernel
theorem dX8_dropSteps_4 : decode cX8_dropSteps 4 = .ok (.invokevirtual 64, 3) := by decide +kernel
theorem dX8_dropSteps_7 : decode cX8_dropSteps 7 = .ok (.istore_n 1, 1) := by decide +kernel
theorem dX8_dropSteps_8 : decode cX8_dropSteps 8 = .ok (.aload_n 0, 1) := by decide +kernel
theorem dX8_dropSteps_9 : decode cX8_dropSteps 9 = .ok (.getfield 12, 3) := by decide +kernel
theorem dX8_dropSteps_12 : decode cX8_dropSteps 12 = .ok (.invokevirtual 80, 3) := by decide +kernel
theorem dX8_dropSteps_15 : decode cX8_dropSteps 15 = .ok (.iload_n 1, 1) := by decide +kernel
theorem dX8_dropSteps_16 : decode cX8_dropSteps 16 = .ok (.ireturn, 1) := by decide +kernel
theorem dX8_open_0 : decode cX8_open 0 = .ok (.iload_n 1, 1) := by decide +kernel
theorem dX8_open_1 : decode cX8_open 1 = .ok (.invokestatic 83, 3) := by decide +kernel
theorem dX8_open_4 : decode cX8_open 4 = .ok (.iload_n 2, 1) := by decide +kernel
theorem dX8_open_5 : decode cX8_open 5 = .ok (.iconst (-1), 1) := by decide +kernel
theorem dX8_open_6 : decode cX8_open 6 = .ok (.if_icmp .eq 8, 3) := by decide +kernel
theorem dX8_open_9 : decode cX8_open 9 = .ok (.aload_n 0, 1) := by decide +kernel
theorem dX8_open_10 : decode cX8_open 10 = .ok (.iload_n 2, 1) := by decide +kernel
theorem dX8_open_11 : decode cX8_open 11 = .ok (.invokevirtual 86, 3) := by decide +kernel
theorem dX8_open_14 : decode cX8_open 14 = .ok (.aload_n 0, 1) := by decide +kernel
theorem dX8_open_15 : decode cX8_open 15 = .ok (.getfield 89, 3) := by decide +kernel
theorem dX8_open_18 : decode cX8_open 18 = .ok (.ifnull 13, 3) := by decide +kernel
theorem dX8_open_21 : decode cX8_open 21 = .ok (.new 68, 3) := by decide +kernel
theorem dX8_open_24 : decode cX8_open 24 = .ok (.dup, 1) := by decide +kernel
theorem dX8_open_25 : decode cX8_open 25 = .ok (.ldc 93, 2) := by decide +kernel
theorem dX8_open_27 : decode cX8_open 27 = .ok (.invokespecial 72, 3) := by decide +kernel
theorem dX8_open_30 : decode cX8_open 30 = .ok (.athrow, 1) := by decide +kernel
theorem dX8_open_31 : decode cX8_open 31 = .ok (.aload_n 0, 1) := by decide +kernel
theorem dX8_open_32 : decode cX8_open 32 = .ok (.getfield 16, 3) := by decide +kernel
theorem dX8_open_35 : decode cX8_open 35 = .ok (.invokevirtual 64, 3) := by decide +kernel
theorem dX8_open_38 : decode cX8_open 38 = .ok (.bipush 30, 2) := by decide +kernel
theorem dX8_open_40 : decode cX8_open 40 = .ok (.if_icmp .lt 13, 3) := by decide +kernel
theorem dX8_open_43 : decode cX8_open 43 = .ok (.new 68, 3) := by decide +kernel
theorem dX8_open_46 : decode cX8_open 46 = .ok (.dup, 1) := by decide +kernel
theorem dX8_open_47 : decode cX8_open 47 = .ok (.ldc 95, 2) := by decide +kernel
theorem dX8_open_49 : decode cX8_open 49 = .ok (.invokespecial 72, 3) := by decide +kernel
theorem dX8_open_52 : decode cX8_open 52 = .ok (.athrow, 1) := by decide +kernel
theorem dX8_open_53 : decode cX8_open 53 = .ok (.aload_n 0, 1) := by decide +kernel
theorem dX8_open_54 : decode cX8_open 54 = .ok (.new 97, 3) := by decide +kernel
theorem dX8_open_57 : decode cX8_open 57 = .ok (.dup, 1) := by decide +kernel
theorem dX8_open_58 : decode cX8_open 58 = .ok (.iload_n 1, 1) := by decide +kernel
theorem dX8_open_59 : decode cX8_open 59 = .ok (.iload_n 2, 1) := by decide +kernel
theorem dX8_open_60 : decode cX8_open 60 = .ok (.invokespecial 99, 3) := by decide +kernel
theorem dX8_open_63 : decode cX8_open 63 = .ok (.putfield 89, 3) := by decide +kernel
theorem dX8_open_66 : decode cX8_open 66 = .ok (.aload_n 0, 1) := by decide +kernel
theorem dX8_open_67 : decode cX8_open 67 = .ok (.getfield 16, 3) := by decide +kernel
theorem dX8_open_70 : decode cX8_open 70 = .ok (.invokevirtual 64, 3) := by decide +kernel
theorem dX8_open_73 : decode cX8_open 73 = .ok (.ireturn, 1) := by decide +kernel
theorem dX8_addWord_0 : decode cX8_addWord 0 = .ok (.iload_n 1, 1) := by decide +kernel
theorem dX8_addWord_1 : decode cX8_addWord 1 = .ok (.invokestatic 102, 3) := by decide +kernel
theorem dX8_addWord_4 : decode cX8_addWord 4 = .ok (.ifCond .ne 13, 3) := by decide +kernel
theorem dX8_addWord_7 : decode cX8_addWord 7 = .ok (.new 57, 3) := by decide +kernel
theorem dX8_addWord_10 : decode cX8_addWord 10 = .ok (.dup, 1) := by decide +kernel
theorem dX8_addWord_11 : decode cX8_addWord 11 = .ok (.ldc 106, 2) := by decide +kernel
theorem dX8_addWord_13 : decode cX8_addWord 13 = .ok (.invokespecial 61, 3) := by decide +kernel
theorem dX8_addWord_16 : decode cX8_addWord 16 = .ok (.athrow, 1) := by decide +kernel
theorem dX8_addWord_17 : decode cX8_addWord 17 = .ok (.aload_n 0, 1) := by decide +kernel
theorem dX8_addWord_18 : decode cX8_addWord 18 = .ok (.getfield 89, 3) := by decide +kernel
theorem dX8_addWord_21 : decode cX8_addWord 21 = .ok (.astore_n 2, 1) := by decide +kernel
theorem dX8_addWord_22 : decode cX8_addWord 22 = .ok (.aload_n 2, 1) := by decide +kernel
theorem dX8_addWord_23 : decode cX8_addWord 23 = .ok (.ifnonnull 13, 3) := by decide +kernel
theorem dX8_addWord_26 : decode cX8_addWord 26 = .ok (.new 68, 3) := by decide +kernel
theorem dX8_addWord_29 : decode cX8_addWord 29 = .ok (.dup, 1) := by decide +kernel
theorem dX8_addWord_30 : decode cX8_addWord 30 = .ok (.ldc 108, 2) := by decide +kernel
theorem dX8_addWord_32 : decode cX8_addWord 32 = .ok (.invokespecial 72, 3) := by decide +kernel
theorem dX8_addWord_35 : decode cX8_addWord 35 = .ok (.athrow, 1) := by decide +kernel
theorem dX8_addWord_36 : decode cX8_addWord 36 = .ok (.aload_n 2, 1) := by decide +kernel
theorem dX8_addWord_37 : decode cX8_addWord 37 = .ok (.getfield 110, 3) := by decide +kernel
theorem dX8_addWord_40 : decode cX8_addWord 40 = .ok (.astore_n 3, 1) := by decide +kernel
theorem dX8_addWord_41 : decode cX8_addWord 41 = .ok (.aload_n 3, 1) := by decide +kernel
theorem dX8_addWord_42 : decode cX8_addWord 42 = .ok (.getfield 114, 3) := by decide +kernel
theorem dX8_addWord_45 : decode cX8_addWord 45 = .ok (.bipush 12, 2) := by decide +kernel
theorem dX8_addWord_47 : decode cX8_addWord 47 = .ok (.if_icmp .lt 13, 3) := by decide +kernel
theorem dX8_addWord_50 : decode cX8_addWord 50 = .ok (.new 68, 3) := by decide +kernel
theorem dX8_addWord_53 : decode cX8_addWord 53 = .ok (.dup, 1) := by decide +kernel
theorem dX8_addWord_54 : decode cX8_addWord 54 = .ok (.ldc 120, 2) := by decide +kernel
theorem dX8_addWord_56 : decode cX8_addWord 56 = .ok (.invokespecial 72, 3) := by decide +kernel
theorem dX8_addWord_59 : decode cX8_addWord 59 = .ok (.athrow, 1) := by decide +kernel
theorem dX8_addWord_60 : decode cX8_addWord 60 = .ok (.aload_n 3, 1) := by decide +kernel
theorem dX8_addWord_61 : decode cX8_addWord 61 = .ok (.iload_n 1, 1) := by decide +kernel
theorem dX8_addWord_62 : decode cX8_addWord 62 = .ok (.aload_n 3, 1) := by decide +kernel
theorem dX8_addWord_63 : decode cX8_addWord 63 = .ok (.getfield 114, 3) := by decide +kernel
theorem dX8_addWord_66 : decode cX8_addWord 66 = .ok (.aload_n 3, 1) := by decide +kernel
theorem dX8_addWord_67 : decode cX8_addWord 67 = .ok (.getfield 114, 3) := by decide +kernel
theorem dX8_addWord_70 : decode cX8_addWord 70 = .ok (.invokevirtual 122, 3) := by decide +kernel
theorem dX8_addWord_73 : decode cX8_addWord 73 = .ok (.aload_n 3, 1) := by decide +kernel
theorem dX8_addWord_74 : decode cX8_addWord 74 = .ok (.getfield 114, 3) := by decide +kernel
theorem dX8_addWord_77 : decode cX8_addWord 77 = .ok (.ireturn, 1) := by decide +kernel
theorem dX8_close_0 : decode cX8_close 0 = .ok (.aload_n 0, 1) := by decide +kernel
theorem dX8_close_1 : decode cX8_close 1 = .ok (.getfield 89, 3) := by decide +kernel
theorem dX8_close_4 : decode cX8_close 4 = .ok (.astore_n 1, 1) := by decide +kernel
theorem dX8_close_5 : decode cX8_close 5 = .ok (.aload_n 1, 1) := by decide +kernel
theorem dX8_close_6 : decode cX8_close 6 = .ok (.ifnonnull 13, 3) := by decide +kernel
theorem dX8_close_9 : decode cX8_close 9 = .ok (.new 68, 3) := by decide +kernel
theorem dX8_close_12 : decode cX8_close 12 = .ok (.dup, 1) := by decide +kernel
theorem dX8_close_13 : decode cX8_close 13 = .ok (.ldc 108, 2) := by decide +kernel
theorem dX8_close_15 : decode cX8_close 15 = .ok (.invokespecial 72, 3) := by decide +kernel
theorem dX8_close_18 : decode cX8_close 18 = .ok (.athrow, 1) := by decide +kernel
theorem dX8_close_19 : decode cX8_close 19 = .ok (.iconst 0, 1) := by decide +kernel
theorem dX8_close_20 : decode cX8_close 20 = .ok (.istore_n 2, 1) := by decide +kernel
theorem dX8_close_21 : decode cX8_close 21 = .ok (.iload_n 2, 1) := by decide +kernel
theorem dX8_close_22 : decode cX8_close 22 = .ok (.aload_n 0, 1) := by decide +kernel
theorem dX8_close_23 : decode cX8_close 23 = .ok (.getfield 12, 3) := by decide +kernel
theorem dX8_close_26 : decode cX8_close 26 = .ok (.invokevirtual 64, 3) := by decide +kernel
theorem dX8_close_29 : decode cX8_close 29 = .ok (.if_icmp .ge 27, 3) := by decide +kernel
theorem dX8_close_32 : decode cX8_close 32 = .ok (.aload_n 0, 1) := by decide +kernel
theorem dX8_close_33 : decode cX8_close 33 = .ok (.getfield 12, 3) := by decide +kernel
theorem dX8_close_36 : decode cX8_close 36 = .ok (.iload_n 2, 1) := by decide +kernel
theorem dX8_close_37 : decode cX8_close 37 = .ok (.invokevirtual 126, 3) := by decide +kernel
theorem dX8_close_40 : decode cX8_close 40 = .ok (.checkcast 52, 3) := by decide +kernel
theorem dX8_close_43 : decode cX8_close 43 = .ok (.aload_n 1, 1) := by decide +kernel
theorem dX8_close_44 : decode cX8_close 44 = .ok (.getfield 110, 3) := by decide +kernel
theorem dX8_close_47 : decode cX8_close 47 = .ok (.invokevirtual 130, 3) := by decide +kernel
theorem dX8_close_50 : decode cX8_close 50 = .ok (.iinc 2 1, 3) := by decide +kernel
theorem dX8_close_53 : decode cX8_close 53 = .ok (.goto (-32), 3) := by decide +kernel
theorem dX8_close_56 : decode cX8_close 56 = .ok (.aload_n 0, 1) := by decide +kernel
theorem dX8_close_57 : decode cX8_close 57 = .ok (.getfield 16, 3) := by decide +kernel
theorem dX8_close_60 : decode cX8_close 60 = .ok (.aload_n 1, 1) := by decide +kernel
theorem dX8_close_61 : decode cX8_close 61 = .ok (.invokevirtual 76, 3) := by decide +kernel
theorem dX8_close_64 : decode cX8_close 64 = .ok (.pop, 1) := by decide +kernel
theorem dX8_close_65 : decode cX8_close 65 = .ok (.aload_n 0, 1) := by decide +kernel
theorem dX8_close_66 : decode cX8_close 66 = .ok (.getfield 28, 3) := by decide +kernel
theorem dX8_close_69 : decode cX8_close 69 = .ok (.invokevirtual 134, 3) := by decide +kernel
theorem dX8_close_72 : decode cX8_close 72 = .ok (.aload_n 0, 1) := by decide +kernel
theorem dX8_close_73 : decode cX8_close 73 = .ok (.aconst_null, 1) := by decide +kernel
theorem dX8_close_74 : decode cX8_close 74 = .ok (.putfield 89, 3) := by decide +kernel
theorem dX8_close_77 : decode cX8_close 77 = .ok (.aload_n 0, 1) := by decide +kernel
theorem dX8_close_78 : decode cX8_close 78 = .ok (.getfield 16, 3) := by decide +kernel
theorem dX8_close_81 : decode cX8_close 81 = .ok (.invokevirtual 64, 3) := by decide +kernel
theorem dX8_close_84 : decode cX8_close 84 = .ok (.iconst 1, 1) := by decide +kernel
theorem dX8_close_85 : decode cX8_close 85 = .ok (.isub, 1) := by decide +kernel
theorem dX8_close_86 : decode cX8_close 86 = .ok (.ireturn, 1) := by decide +kernel
theorem dX8_remove_0 : decode cX8_remove 0 = .ok (.aload_n 0, 1) := by decide +kernel
theorem dX8_remove_1 : decode cX8_remove 1 = .ok (.iload_n 1, 1) := by decide +kernel
theorem dX8_remove_2 : decode cX8_remove 2 = .ok (.invokevirtual 86, 3) := by decide +kernel
theorem dX8_remove_5 : decode cX8_remove 5 = .ok (.aload_n 0, 1) := by decide +kernel
theorem dX8_remove_6 : decode cX8_remove 6 = .ok (.getfield 28, 3) := by decide +kernel
theorem dX8_remove_9 : decode cX8_remove 9 = .ok (.iload_n 1, 1) := by decide +kernel
theorem dX8_remove_10 : decode cX8_remove 10 = .ok (.invokevirtual 137, 3) := by decide +kernel
theorem dX8_remove_13 : decode cX8_remove 13 = .ok (.istore_n 2, 1) := by decide +kernel
theorem dX8_remove_14 : decode cX8_remove 14 = .ok (.aload_n 0, 1) := by decide +kernel
theorem dX8_remove_15 : decode cX8_remove 15 = .ok (.getfield 28, 3) := by decide +kernel
theorem dX8_remove_18 : decode cX8_remove 18 = .ok (.iload_n 1, 1) := by decide +kernel
theorem dX8_remove_19 : decode cX8_remove 19 = .ok (.invokevirtual 141, 3) := by decide +kernel
theorem dX8_remove_22 : decode cX8_remove 22 = .ok (.ifCond .ne 13, 3) := by decide +kernel
theorem dX8_remove_25 : decode cX8_remove 25 = .ok (.new 68, 3) := by decide +kernel
theorem dX8_remove_28 : decode cX8_remove 28 = .ok (.dup, 1) := by decide +kernel
theorem dX8_remove_29 : decode cX8_remove 29 = .ok (.ldc 144, 2) := by decide +kernel
theorem dX8_remove_31 : decode cX8_remove 31 = .ok (.invokespecial 72, 3) := by decide +kernel
theorem dX8_remove_34 : decode cX8_remove 34 = .ok (.athrow, 1) := by decide +kernel
theorem dX8_remove_35 : decode cX8_remove 35 = .ok (.aload_n 0, 1) := by decide +kernel
theorem dX8_remove_36 : decode cX8_remove 36 = .ok (.getfield 28, 3) := by decide +kernel
theorem dX8_remove_39 : decode cX8_remove 39 = .ok (.iload_n 1, 1) := by decide +kernel
theorem dX8_remove_40 : decode cX8_remove 40 = .ok (.invokevirtual 146, 3) := by decide +kernel
theorem dX8_remove_43 : decode cX8_remove 43 = .ok (.iload_n 2, 1) := by decide +kernel
theorem dX8_remove_44 : decode cX8_remove 44 = .ok (.ireturn, 1) := by decide +kernel
theorem dX8_state_0 : decode cX8_state 0 = .ok (.aload_n 0, 1) := by decide +kernel
theorem dX8_state_1 : decode cX8_state 1 = .ok (.iload_n 1, 1) := by decide +kernel
theorem dX8_state_2 : decode cX8_state 2 = .ok (.invokevirtual 86, 3) := by decide +kernel
theorem dX8_state_5 : decode cX8_state 5 = .ok (.aload_n 0, 1) := by decide +kernel
theorem dX8_state_6 : decode cX8_state 6 = .ok (.getfield 28, 3) := by decide +kernel
theorem dX8_state_9 : decode cX8_state 9 = .ok (.iload_n 1, 1) := by decide +kernel
theorem dX8_state_10 : decode cX8_state 10 = .ok (.invokevirtual 137, 3) := by decide +kernel
theorem dX8_state_13 : decode cX8_state 13 = .ok (.ireturn, 1) := by decide +kernel
theorem dX8_length_0 : decode cX8_length 0 = .ok (.aload_n 0, 1) := by decide +kernel
theorem dX8_length_1 : decode cX8_length 1 = .ok (.iload_n 1, 1) := by decide +kernel
theorem dX8_length_2 : decode cX8_length 2 = .ok (.invokevirtual 149, 3) := by decide +kernel
theorem dX8_length_5 : decode cX8_length 5 = .ok (.getfield 110, 3) := by decide +kernel
theorem dX8_length_8 : decode cX8_length 8 = .ok (.getfield 114, 3) := by decide +kernel
theorem dX8_length_11 : decode cX8_length 11 = .ok (.ireturn, 1) := by decide +kernel
theorem dX8_standing_0 : decode cX8_standing 0 = .ok (.aload_n 0, 1) := by decide +kernel
theorem dX8_standing_1 : decode cX8_standing 1 = .ok (.iload_n 1, 1) := by decide +kernel
theorem dX8_standing_2 : decode cX8_standing 2 = .ok (.invokevirtual 149, 3) := by decide +kernel
theorem dX8_standing_5 : decode cX8_standing 5 = .ok (.getfield 110, 3) := by decide +kernel
theorem dX8_standing_8 : decode cX8_standing 8 = .ok (.iload_n 2, 1) := by decide +kernel
theorem dX8_standing_9 : decode cX8_standing 9 = .ok (.iload_n 3, 1) := by decide +kernel
theorem dX8_standing_10 : decode cX8_standing 10 = .ok (.invokevirtual 153, 3) := by decide +kernel
theorem dX8_standing_13 : decode cX8_standing 13 = .ok (.ireturn, 1) := by decide +kernel
theorem dX8_write_0 : decode cX8_write 0 = .ok (.aload_n 0, 1) := by decide +kernel
theorem dX8_write_1 : decode cX8_write 1 = .ok (.getfield 28, 3) := by decide +kernel
theorem dX8_write_4 : decode cX8_write 4 = .ok (.invokevirtual 157, 3) := by decide +kernel
theorem dX8_write_7 : decode cX8_write 7 = .ok (.ireturn, 1) := by decide +kernel
theorem dX8_segments_0 : decode cX8_segments 0 = .ok (.aload_n 0, 1) := by decide +kernel
theorem dX8_segments_1 : decode cX8_segments 1 = .ok (.getfield 28, 3) := by decide +kernel
theorem dX8_segments_4 : decode cX8_segments 4 = .ok (.getfield 160, 3) := by decide +kernel
theorem dX8_segments_7 : decode cX8_segments 7 = .ok (.ireturn, 1) := by decide +kernel
theorem dX8_size_0 : decode cX8_size 0 = .ok (.aload_n 0, 1) := by decide +kernel
theorem dX8_size_1 : decode cX8_size 1 = .ok (.getfield 28, 3) := by decide +kernel
theorem dX8_size_4 : decode cX8_size 4 = .ok (.iload_n 1, 1) := by decide +kernel
theorem dX8_size_5 : decode cX8_size 5 = .ok (.invokevirtual 163, 3) := by decide +kernel
theorem dX8_size_8 : decode cX8_size 8 = .ok (.ifCond .ne 13, 3) := by decide +kernel
theorem dX8_size_11 : decode cX8_size 11 = .ok (.new 166, 3) := by decide +kernel
theorem dX8_size_14 : decode cX8_size 14 = .ok (.dup, 1) := by decide +kernel
theorem dX8_size_15 : decode cX8_size 15 = .ok (.ldc 168, 2) := by decide +kernel
theorem dX8_size_17 : decode cX8_size 17 = .ok (.invokespecial 170, 3) := by decide +kernel
theorem dX8_size_20 : decode cX8_size 20 = .ok (.athrow, 1) := by decide +kernel
theorem dX8_size_21 : decode cX8_size 21 = .ok (.aload_n 0, 1) := by decide +kernel
theorem dX8_size_22 : decode cX8_size 22 = .ok (.getfield 28, 3) := by decide +kernel
theorem dX8_size_25 : decode cX8_size 25 = .ok (.iload_n 1, 1) := by decide +kernel
theorem dX8_size_26 : decode cX8_size 26 = .ok (.invokevirtual 171, 3) := by decide +kernel
theorem dX8_size_29 : decode cX8_size 29 = .ok (.ireturn, 1) := by decide +kernel
theorem dX8_merge_0 : decode cX8_merge 0 = .ok (.aload_n 0, 1) := by decide +kernel
theorem dX8_merge_1 : decode cX8_merge 1 = .ok (.getfield 28, 3) := by decide +kernel
theorem dX8_merge_4 : decode cX8_merge 4 = .ok (.iload_n 1, 1) := by decide +kernel
theorem dX8_merge_5 : decode cX8_merge 5 = .ok (.invokevirtual 163, 3) := by decide +kernel
theorem dX8_merge_8 : decode cX8_merge 8 = .ok (.ifCond .ne 13, 3) := by decide +kernel
theorem dX8_merge_11 : decode cX8_merge 11 = .ok (.new 166, 3) := by decide +kernel
theorem dX8_merge_14 : decode cX8_merge 14 = .ok (.dup, 1) := by decide +kernel
theorem dX8_merge_15 : decode cX8_merge 15 = .ok (.ldc 168, 2) := by decide +kernel
theorem dX8_merge_17 : decode cX8_merge 17 = .ok (.invokespecial 170, 3) := by decide +kernel
theorem dX8_merge_20 : decode cX8_merge 20 = .ok (.athrow, 1) := by decide +kernel
theorem dX8_merge_21 : decode cX8_merge 21 = .ok (.aload_n 0, 1) := by decide +kernel
theorem dX8_merge_22 : decode cX8_merge 22 = .ok (.getfield 28, 3) := by decide +kernel
theorem dX8_merge_25 : decode cX8_merge 25 = .ok (.iload_n 1, 1) := by decide +kernel
theorem dX8_merge_26 : decode cX8_merge 26 = .ok (.iconst 1, 1) := by decide +kernel
theorem dX8_merge_27 : decode cX8_merge 27 = .ok (.iadd, 1) := by decide +kernel
theorem dX8_merge_28 : decode cX8_merge 28 = .ok (.invokevirtual 163, 3) := by decide +kernel
theorem dX8_merge_31 : decode cX8_merge 31 = .ok (.ifCond .ne 13, 3) := by decide +kernel
theorem dX8_merge_34 : decode cX8_merge 34 = .ok (.new 166, 3) := by decide +kernel
theorem dX8_merge_37 : decode cX8_merge 37 = .ok (.dup, 1) := by decide +kernel
theorem dX8_merge_38 : decode cX8_merge 38 = .ok (.ldc 175, 2) := by decide +kernel
theorem dX8_merge_40 : decode cX8_merge 40 = .ok (.invokespecial 170, 3) := by decide +kernel
theorem dX8_merge_43 : decode cX8_merge 43 = .ok (.athrow, 1) := by decide +kernel
theorem dX8_merge_44 : decode cX8_merge 44 = .ok (.aload_n 0, 1) := by decide +kernel
theorem dX8_merge_45 : decode cX8_merge 45 = .ok (.getfield 28, 3) := by decide +kernel
theorem dX8_merge_48 : decode cX8_merge 48 = .ok (.iload_n 1, 1) := by decide +kernel
theorem dX8_merge_49 : decode cX8_merge 49 = .ok (.invokevirtual 177, 3) := by decide +kernel
theorem dX8_merge_52 : decode cX8_merge 52 = .ok (.ireturn, 1) := by decide +kernel
theorem dX8_commit_0 : decode cX8_commit 0 = .ok (.aload_n 0, 1) := by decide +kernel
theorem dX8_commit_1 : decode cX8_commit 1 = .ok (.getfield 28, 3) := by decide +kernel
theorem dX8_commit_4 : decode cX8_commit 4 = .ok (.invokevirtual 157, 3) := by decide +kernel
theorem dX8_commit_7 : decode cX8_commit 7 = .ok (.pop, 1) := by decide +kernel
theorem dX8_commit_8 : decode cX8_commit 8 = .ok (.aload_n 0, 1) := by decide +kernel
theorem dX8_commit_9 : decode cX8_commit 9 = .ok (.getfield 32, 3) := by decide +kernel
theorem dX8_commit_12 : decode cX8_commit 12 = .ok (.aload_n 0, 1) := by decide +kernel
theorem dX8_commit_13 : decode cX8_commit 13 = .ok (.getfield 28, 3) := by decide +kernel
theorem dX8_commit_16 : decode cX8_commit 16 = .ok (.invokevirtual 180, 3) := by decide +kernel
theorem dX8_commit_19 : decode cX8_commit 19 = .ok (.aload_n 0, 1) := by decide +kernel
theorem dX8_commit_20 : decode cX8_commit 20 = .ok (.dup, 1) := by decide +kernel
theorem dX8_commit_21 : decode cX8_commit 21 = .ok (.getfield 184, 3) := by decide +kernel
theorem dX8_commit_24 : decode cX8_commit 24 = .ok (.iconst 1, 1) := by decide +kernel
theorem dX8_commit_25 : decode cX8_commit 25 = .ok (.iadd, 1) := by decide +kernel
theorem dX8_commit_26 : decode cX8_commit 26 = .ok (.putfield 184, 3) := by decide +kernel
theorem dX8_commit_29 : decode cX8_commit 29 = .ok (.aload_n 0, 1) := by decide +kernel
theorem dX8_commit_30 : decode cX8_commit 30 = .ok (.getfield 184, 3) := by decide +kernel
theorem dX8_commit_33 : decode cX8_commit 33 = .ok (.ireturn, 1) := by decide +kernel
theorem dX8_crash_0 : decode cX8_crash 0 = .ok (.aload_n 0, 1) := by decide +kernel
theorem dX8_crash_1 : decode cX8_crash 1 = .ok (.aconst_null, 1) := by decide +kernel
theorem dX8_crash_2 : decode cX8_crash 2 = .ok (.putfield 89, 3) := by decide +kernel
theorem dX8_crash_5 : decode cX8_crash 5 = .ok (.aload_n 0, 1) := by decide +kernel
theorem dX8_crash_6 : decode cX8_crash 6 = .ok (.getfield 19, 3) := by decide +kernel
theorem dX8_crash_9 : decode cX8_crash 9 = .ok (.invokevirtual 80, 3) := by decide +kernel
theorem dX8_crash_12 : decode cX8_crash 12 = .ok (.aload_n 0, 1) := by decide +kernel
theorem dX8_crash_13 : decode cX8_crash 13 = .ok (.getfield 28, 3) := by decide +kernel
theorem dX8_crash_16 : decode cX8_crash 16 = .ok (.aload_n 0, 1) := by decide +kernel
theorem dX8_crash_17 : decode cX8_crash 17 = .ok (.getfield 32, 3) := by decide +kernel
theorem dX8_crash_20 : decode cX8_crash 20 = .ok (.invokevirtual 187, 3) := by decide +kernel
theorem dX8_crash_23 : decode cX8_crash 23 = .ok (.ireturn, 1) := by decide +kernel
theorem dX8_follow_0 : decode cX8_follow 0 = .ok (.aload_n 0, 1) := by decide +kernel
theorem dX8_follow_1 : decode cX8_follow 1 = .ok (.getfield 184, 3) := by decide +kernel
theorem dX8_follow_4 : decode cX8_follow 4 = .ok (.ifCond .ne 13, 3) := by decide +kernel
theorem dX8_follow_7 : decode cX8_follow 7 = .ok (.new 68, 3) := by decide +kernel
theorem dX8_follow_10 : decode cX8_follow 10 = .ok (.dup, 1) := by decide +kernel
theorem dX8_follow_11 : decode cX8_follow 11 = .ok (.ldc 191, 2) := by decide +kernel
theorem dX8_follow_13 : decode cX8_follow 13 = .ok (.invokespecial 72, 3) := by decide +kernel
theorem dX8_follow_16 : decode cX8_follow 16 = .ok (.athrow, 1) := by decide +kernel
theorem dX8_follow_17 : decode cX8_follow 17 = .ok (.aload_n 0, 1) := by decide +kernel
theorem dX8_follow_18 : decode cX8_follow 18 = .ok (.getfield 32, 3) := by decide +kernel
theorem dX8_follow_21 : decode cX8_follow 21 = .ok (.aload_n 0, 1) := by decide +kernel
theorem dX8_follow_22 : decode cX8_follow 22 = .ok (.getfield 40, 3) := by decide +kernel
theorem dX8_follow_25 : decode cX8_follow 25 = .ok (.invokevirtual 193, 3) := by decide +kernel
theorem dX8_follow_28 : decode cX8_follow 28 = .ok (.ireturn, 1) := by decide +kernel
theorem dX8_isOnReplica_0 : decode cX8_isOnReplica 0 = .ok (.aload_n 0, 1) := by decide +kernel
theorem dX8_isOnReplica_1 : decode cX8_isOnReplica 1 = .ok (.iload_n 1, 1) := by decide +kernel
theorem dX8_isOnReplica_2 : decode cX8_isOnReplica 2 = .ok (.invokevirtual 86, 3) := by decide +kernel
theorem dX8_isOnReplica_5 : decode cX8_isOnReplica 5 = .ok (.aload_n 0, 1) := by decide +kernel
theorem dX8_isOnReplica_6 : decode cX8_isOnReplica 6 = .ok (.getfield 40, 3) := by decide +kernel
theorem dX8_isOnReplica_9 : decode cX8_isOnReplica 9 = .ok (.iload_n 1, 1) := by decide +kernel
theorem dX8_isOnReplica_10 : decode cX8_isOnReplica 10 = .ok (.invokevirtual 197, 3) := by decide +kernel
theorem dX8_isOnReplica_13 : decode cX8_isOnReplica 13 = .ok (.iconst 1, 1) := by decide +kernel
theorem dX8_isOnReplica_14 : decode cX8_isOnReplica 14 = .ok (.if_icmp .ne 7, 3) := by decide +kernel
theorem dX8_isOnReplica_17 : decode cX8_isOnReplica 17 = .ok (.iconst 1, 1) := by decide +kernel
theorem dX8_isOnReplica_18 : decode cX8_isOnReplica 18 = .ok (.goto 4, 3) := by decide +kernel
theorem dX8_isOnReplica_21 : decode cX8_isOnReplica 21 = .ok (.iconst 0, 1) := by decide +kernel
theorem dX8_isOnReplica_22 : decode cX8_isOnReplica 22 = .ok (.ireturn, 1) := by decide +kernel
theorem dX8_openView_0 : decode cX8_openView 0 = .ok (.aload_n 0, 1) := by decide +kernel
theorem dX8_openView_1 : decode cX8_openView 1 = .ok (.getfield 19, 3) := by decide +kernel
theorem dX8_openView_4 : decode cX8_openView 4 = .ok (.invokevirtual 64, 3) := by decide +kernel
theorem dX8_openView_7 : decode cX8_openView 7 = .ok (.iconst 4, 1) := by decide +kernel
theorem dX8_openView_8 : decode cX8_openView 8 = .ok (.if_icmp .lt 13, 3) := by decide +kernel
theorem dX8_openView_11 : decode cX8_openView 11 = .ok (.new 68, 3) := by decide +kernel
theorem dX8_openView_14 : decode cX8_openView 14 = .ok (.dup, 1) := by decide +kernel
theorem dX8_openView_15 : decode cX8_openView 15 = .ok (.ldc 199, 2) := by decide +kernel
theorem dX8_openView_17 : decode cX8_openView 17 = .ok (.invokespecial 72, 3) := by decide +kernel
theorem dX8_openView_20 : decode cX8_openView 20 = .ok (.athrow, 1) := by decide +kernel
theorem dX8_openView_21 : decode cX8_openView 21 = .ok (.new 35, 3) := by decide +kernel
theorem dX8_openView_24 : decode cX8_openView 24 = .ok (.dup, 1) := by decide +kernel
theorem dX8_openView_25 : decode cX8_openView 25 = .ok (.bipush 30, 2) := by decide +kernel
theorem dX8_openView_27 : decode cX8_openView 27 = .ok (.invokespecial 37, 3) := by decide +kernel
theorem dX8_openView_30 : decode cX8_openView 30 = .ok (.astore_n 1, 1) := by decide +kernel
theorem dX8_openView_31 : decode cX8_openView 31 = .ok (.aload_n 0, 1) := by decide +kernel
theorem dX8_openView_32 : decode cX8_openView 32 = .ok (.getfield 28, 3) := by decide +kernel
theorem dX8_openView_35 : decode cX8_openView 35 = .ok (.aload_n 1, 1) := by decide +kernel
theorem dX8_openView_36 : decode cX8_openView 36 = .ok (.invokevirtual 193, 3) := by decide +kernel
theorem dX8_openView_39 : decode cX8_openView 39 = .ok (.istore_n 2, 1) := by decide +kernel
theorem dX8_openView_40 : decode cX8_openView 40 = .ok (.aload_n 0, 1) := by decide +kernel
theorem dX8_openView_41 : decode cX8_openView 41 = .ok (.getfield 19, 3) := by decide +kernel
theorem dX8_openView_44 : decode cX8_openView 44 = .ok (.new 201, 3) := by decide +kernel
theorem dX8_openView_47 : decode cX8_openView 47 = .ok (.dup, 1) := by decide +kernel
theorem dX8_openView_48 : decode cX8_openView 48 = .ok (.aload_n 0, 1) := by decide +kernel
theorem dX8_openView_49 : decode cX8_openView 49 = .ok (.getfield 203, 3) := by decide +kernel
theorem dX8_openView_52 : decode cX8_openView 52 = .ok (.aload_n 1, 1) := by decide +kernel
theorem dX8_openView_53 : decode cX8_openView 53 = .ok (.iload_n 2, 1) := by decide +kernel
theorem dX8_openView_54 : decode cX8_openView 54 = .ok (.invokespecial 206, 3) := by decide +kernel
theorem dX8_openView_57 : decode cX8_openView 57 = .ok (.invokevirtual 76, 3) := by decide +kernel
theorem dX8_openView_60 : decode cX8_openView 60 = .ok (.pop, 1) := by decide +kernel
theorem dX8_openView_61 : decode cX8_openView 61 = .ok (.aload_n 0, 1) := by decide +kernel
theorem dX8_openView_62 : decode cX8_openView 62 = .ok (.dup, 1) := by decide +kernel
theorem dX8_openView_63 : decode cX8_openView 63 = .ok (.getfield 203, 3) := by decide +kernel
theorem dX8_openView_66 : decode cX8_openView 66 = .ok (.iconst 1, 1) := by decide +kernel
theorem dX8_openView_67 : decode cX8_openView 67 = .ok (.iadd, 1) := by decide +kernel
theorem dX8_openView_68 : decode cX8_openView 68 = .ok (.putfield 203, 3) := by decide +kernel
theorem dX8_openView_71 : decode cX8_openView 71 = .ok (.aload_n 0, 1) := by decide +kernel
theorem dX8_openView_72 : decode cX8_openView 72 = .ok (.getfield 203, 3) := by decide +kernel
theorem dX8_openView_75 : decode cX8_openView 75 = .ok (.iconst 1, 1) := by decide +kernel
theorem dX8_openView_76 : decode cX8_openView 76 = .ok (.isub, 1) := by decide +kernel
theorem dX8_openView_77 : decode cX8_openView 77 = .ok (.ireturn, 1) := by decide +kernel
theorem dX8_closeView_0 : decode cX8_closeView 0 = .ok (.aload_n 0, 1) := by decide +kernel
theorem dX8_closeView_1 : decode cX8_closeView 1 = .ok (.iload_n 1, 1) := by decide +kernel
theorem dX8_closeView_2 : decode cX8_closeView 2 = .ok (.invokevirtual 209, 3) := by decide +kernel
theorem dX8_closeView_5 : decode cX8_closeView 5 = .ok (.istore_n 2, 1) := by decide +kernel
theorem dX8_closeView_6 : decode cX8_closeView 6 = .ok (.iload_n 2, 1) := by decide +kernel
theorem dX8_closeView_7 : decode cX8_closeView 7 = .ok (.ifCond .ge 13, 3) := by decide +kernel
theorem dX8_closeView_10 : decode cX8_closeView 10 = .ok (.new 166, 3) := by decide +kernel
theorem dX8_closeView_13 : decode cX8_closeView 13 = .ok (.dup, 1) := by decide +kernel
theorem dX8_closeView_14 : decode cX8_closeView 14 = .ok (.ldc 212, 2) := by decide +kernel
theorem dX8_closeView_16 : decode cX8_closeView 16 = .ok (.invokespecial 170, 3) := by decide +kernel
theorem dX8_closeView_19 : decode cX8_closeView 19 = .ok (.athrow, 1) := by decide +kernel
theorem dX8_closeView_20 : decode cX8_closeView 20 = .ok (.aload_n 0, 1) := by decide +kernel
theorem dX8_closeView_21 : decode cX8_closeView 21 = .ok (.getfield 19, 3) := by decide +kernel
theorem dX8_closeView_24 : decode cX8_closeView 24 = .ok (.iload_n 2, 1) := by decide +kernel
theorem dX8_closeView_25 : decode cX8_closeView 25 = .ok (.invokevirtual 214, 3) := by decide +kernel
theorem dX8_closeView_28 : decode cX8_closeView 28 = .ok (.pop, 1) := by decide +kernel
theorem dX8_closeView_29 : decode cX8_closeView 29 = .ok (.aload_n 0, 1) := by decide +kernel
theorem dX8_closeView_30 : decode cX8_closeView 30 = .ok (.getfield 19, 3) := by decide +kernel
theorem dX8_closeView_33 : decode cX8_closeView 33 = .ok (.invokevirtual 64, 3) := by decide +kernel
theorem dX8_closeView_36 : decode cX8_closeView 36 = .ok (.ireturn, 1) := by decide +kernel
theorem dX8_seen_0 : decode cX8_seen 0 = .ok (.aload_n 0, 1) := by decide +kernel
theorem dX8_seen_1 : decode cX8_seen 1 = .ok (.iload_n 1, 1) := by decide +kernel
theorem dX8_seen_2 : decode cX8_seen 2 = .ok (.invokevirtual 217, 3) := by decide +kernel
theorem dX8_seen_5 : decode cX8_seen 5 = .ok (.getfield 221, 3) := by decide +kernel
theorem dX8_seen_8 : decode cX8_seen 8 = .ok (.ireturn, 1) := by decide +kernel
theorem dX8_ask_0 : decode cX8_ask 0 = .ok (.iload_n 1, 1) := by decide +kernel
theorem dX8_ask_1 : decode cX8_ask 1 = .ok (.iload_n 2, 1) := by decide +kernel
theorem dX8_ask_2 : decode cX8_ask 2 = .ok (.iload_n 3, 1) := by decide +kernel
theorem dX8_ask_3 : decode cX8_ask 3 = .ok (.iload 4, 2) := by decide +kernel
theorem dX8_ask_5 : decode cX8_ask 5 = .ok (.invokestatic 222, 3) := by decide +kernel
theorem dX8_ask_8 : decode cX8_ask 8 = .ok (.ifCond .ne 13, 3) := by decide +kernel
theorem dX8_ask_11 : decode cX8_ask 11 = .ok (.new 57, 3) := by decide +kernel
theorem dX8_ask_14 : decode cX8_ask 14 = .ok (.dup, 1) := by decide +kernel
theorem dX8_ask_15 : decode cX8_ask 15 = .ok (.ldc 228, 2) := by decide +kernel
theorem dX8_ask_17 : decode cX8_ask 17 = .ok (.invokespecial 61, 3) := by decide +kernel
theorem dX8_ask_20 : decode cX8_ask 20 = .ok (.athrow, 1) := by decide +kernel
theorem dX8_ask_21 : decode cX8_ask 21 = .ok (.iload 5, 2) := by decide +kernel
theorem dX8_ask_23 : decode cX8_ask 23 = .ok (.iconst 1, 1) := by decide +kernel
theorem dX8_ask_24 : decode cX8_ask 24 = .ok (.if_icmp .lt 10, 3) := by decide +kernel
theorem dX8_ask_27 : decode cX8_ask 27 = .ok (.iload 5, 2) := by decide +kernel
theorem dX8_ask_29 : decode cX8_ask 29 = .ok (.bipush 9, 2) := by decide +kernel
theorem dX8_ask_31 : decode cX8_ask 31 = .ok (.if_icmp .le 13, 3) := by decide +kernel
theorem dX8_ask_34 : decode cX8_ask 34 = .ok (.new 57, 3) := by decide +kernel
theorem dX8_ask_37 : decode cX8_ask 37 = .ok (.dup, 1) := by decide +kernel
theorem dX8_ask_38 : decode cX8_ask 38 = .ok (.ldc 230, 2) := by decide +kernel
theorem dX8_ask_40 : decode cX8_ask 40 = .ok (.invokespecial 61, 3) := by decide +kernel
theorem dX8_ask_43 : decode cX8_ask 43 = .ok (.athrow, 1) := by decide +kernel
theorem dX8_ask_44 : decode cX8_ask 44 = .ok (.aload_n 0, 1) := by decide +kernel
theorem dX8_ask_45 : decode cX8_ask 45 = .ok (.getfield 22, 3) := by decide +kernel
theorem dX8_ask_48 : decode cX8_ask 48 = .ok (.invokevirtual 64, 3) := by decide +kernel
theorem dX8_ask_51 : decode cX8_ask 51 = .ok (.bipush 40, 2) := by decide +kernel
theorem dX8_ask_53 : decode cX8_ask 53 = .ok (.if_icmp .lt 13, 3) := by decide +kernel
theorem dX8_ask_56 : decode cX8_ask 56 = .ok (.new 68, 3) := by decide +kernel
theorem dX8_ask_59 : decode cX8_ask 59 = .ok (.dup, 1) := by decide +kernel
theorem dX8_ask_60 : decode cX8_ask 60 = .ok (.ldc 232, 2) := by decide +kernel
theorem dX8_ask_62 : decode cX8_ask 62 = .ok (.invokespecial 72, 3) := by decide +kernel
theorem dX8_ask_65 : decode cX8_ask 65 = .ok (.athrow, 1) := by decide +kernel
theorem dX8_ask_66 : decode cX8_ask 66 = .ok (.aload_n 0, 1) := by decide +kernel
theorem dX8_ask_67 : decode cX8_ask 67 = .ok (.getfield 22, 3) := by decide +kernel
theorem dX8_ask_70 : decode cX8_ask 70 = .ok (.new 223, 3) := by decide +kernel
theorem dX8_ask_73 : decode cX8_ask 73 = .ok (.dup, 1) := by decide +kernel
theorem dX8_ask_74 : decode cX8_ask 74 = .ok (.iload_n 1, 1) := by decide +kernel
theorem dX8_ask_75 : decode cX8_ask 75 = .ok (.iload_n 2, 1) := by decide +kernel
theorem dX8_ask_76 : decode cX8_ask 76 = .ok (.iload_n 3, 1) := by decide +kernel
theorem dX8_ask_77 : decode cX8_ask 77 = .ok (.iload 4, 2) := by decide +kernel
theorem dX8_ask_79 : decode cX8_ask 79 = .ok (.iload 5, 2) := by decide +kernel
theorem dX8_ask_81 : decode cX8_ask 81 = .ok (.iconst 1, 1) := by decide +kernel
theorem dX8_ask_82 : decode cX8_ask 82 = .ok (.invokespecial 234, 3) := by decide +kernel
theorem dX8_ask_85 : decode cX8_ask 85 = .ok (.invokevirtual 76, 3) := by decide +kernel
theorem dX8_ask_88 : decode cX8_ask 88 = .ok (.pop, 1) := by decide +kernel
theorem dX8_ask_89 : decode cX8_ask 89 = .ok (.aload_n 0, 1) := by decide +kernel
theorem dX8_ask_90 : decode cX8_ask 90 = .ok (.getfield 22, 3) := by decide +kernel
theorem dX8_ask_93 : decode cX8_ask 93 = .ok (.invokevirtual 64, 3) := by decide +kernel
theorem dX8_ask_96 : decode cX8_ask 96 = .ok (.iconst 1, 1) := by decide +kernel
theorem dX8_ask_97 : decode cX8_ask 97 = .ok (.isub, 1) := by decide +kernel
theorem dX8_ask_98 : decode cX8_ask 98 = .ok (.ireturn, 1) := by decide +kernel
theorem dX8_join_0 : decode cX8_join 0 = .ok (.iload_n 1, 1) := by decide +kernel
theorem dX8_join_1 : decode cX8_join 1 = .ok (.invokestatic 237, 3) := by decide +kernel
theorem dX8_join_4 : decode cX8_join 4 = .ok (.ifCond .ne 13, 3) := by decide +kernel
theorem dX8_join_7 : decode cX8_join 7 = .ok (.new 57, 3) := by decide +kernel
theorem dX8_join_10 : decode cX8_join 10 = .ok (.dup, 1) := by decide +kernel
theorem dX8_join_11 : decode cX8_join 11 = .ok (.ldc 241, 2) := by decide +kernel
theorem dX8_join_13 : decode cX8_join 13 = .ok (.invokespecial 61, 3) := by decide +kernel
theorem dX8_join_16 : decode cX8_join 16 = .ok (.athrow, 1) := by decide +kernel
theorem dX8_join_17 : decode cX8_join 17 = .ok (.aload_n 0, 1) := by decide +kernel
theorem dX8_join_18 : decode cX8_join 18 = .ok (.iload_n 2, 1) := by decide +kernel
theorem dX8_join_19 : decode cX8_join 19 = .ok (.invokevirtual 243, 3) := by decide +kernel
theorem dX8_join_22 : decode cX8_join 22 = .ok (.aload_n 0, 1) := by decide +kernel
theorem dX8_join_23 : decode cX8_join 23 = .ok (.iload_n 3, 1) := by decide +kernel
theorem dX8_join_24 : decode cX8_join 24 = .ok (.invokevirtual 243, 3) := by decide +kernel
theorem dX8_join_27 : decode cX8_join 27 = .ok (.aload_n 0, 1) := by decide +kernel
theorem dX8_join_28 : decode cX8_join 28 = .ok (.getfield 22, 3) := by decide +kernel
theorem dX8_join_31 : decode cX8_join 31 = .ok (.invokevirtual 64, 3) := by decide +kernel
theorem dX8_join_34 : decode cX8_join 34 = .ok (.bipush 40, 2) := by decide +kernel
theorem dX8_join_36 : decode cX8_join 36 = .ok (.if_icmp .lt 13, 3) := by decide +kernel
theorem dX8_join_39 : decode cX8_join 39 = .ok (.new 68, 3) := by decide +kernel
theorem dX8_join_42 : decode cX8_join 42 = .ok (.dup, 1) := by decide +kernel
theorem dX8_join_43 : decode cX8_join 43 = .ok (.ldc 232, 2) := by decide +kernel
theorem dX8_join_45 : decode cX8_join 45 = .ok (.invokespecial 72, 3) := by decide +kernel
theorem dX8_join_48 : decode cX8_join 48 = .ok (.athrow, 1) := by decide +kernel
theorem dX8_join_49 : decode cX8_join 49 = .ok (.aload_n 0, 1) := by decide +kernel
theorem dX8_join_50 : decode cX8_join 50 = .ok (.getfield 22, 3) := by decide +kernel
theorem dX8_join_53 : decode cX8_join 53 = .ok (.iload_n 2, 1) := by decide +kernel
theorem dX8_join_54 : decode cX8_join 54 = .ok (.invokevirtual 126, 3) := by decide +kernel
theorem dX8_join_57 : decode cX8_join 57 = .ok (.checkcast 223, 3) := by decide +kernel
theorem dX8_join_60 : decode cX8_join 60 = .ok (.getfield 246, 3) := by decide +kernel
theorem dX8_join_63 : decode cX8_join 63 = .ok (.aload_n 0, 1) := by decide +kernel
theorem dX8_join_64 : decode cX8_join 64 = .ok (.getfield 22, 3) := by decide +kernel
theorem dX8_join_67 : decode cX8_join 67 = .ok (.iload_n 3, 1) := by decide +kernel
theorem dX8_join_68 : decode cX8_join 68 = .ok (.invokevirtual 126, 3) := by decide +kernel
theorem dX8_join_71 : decode cX8_join 71 = .ok (.checkcast 223, 3) := by decide +kernel
theorem dX8_join_74 : decode cX8_join 74 = .ok (.getfield 246, 3) := by decide +kernel
theorem dX8_join_77 : decode cX8_join 77 = .ok (.iadd, 1) := by decide +kernel
theorem dX8_join_78 : decode cX8_join 78 = .ok (.istore 4, 2) := by decide +kernel
theorem dX8_join_80 : decode cX8_join 80 = .ok (.iload 4, 2) := by decide +kernel
theorem dX8_join_82 : decode cX8_join 82 = .ok (.bipush 20, 2) := by decide +kernel
theorem dX8_join_84 : decode cX8_join 84 = .ok (.if_icmp .le 13, 3) := by decide +kernel
theorem dX8_join_87 : decode cX8_join 87 = .ok (.new 68, 3) := by decide +kernel
theorem dX8_join_90 : decode cX8_join 90 = .ok (.dup, 1) := by decide +kernel
theorem dX8_join_91 : decode cX8_join 91 = .ok (.ldc 249, 2) := by decide +kernel
theorem dX8_join_93 : decode cX8_join 93 = .ok (.invokespecial 72, 3) := by decide +kernel
theorem dX8_join_96 : decode cX8_join 96 = .ok (.athrow, 1) := by decide +kernel
theorem dX8_join_97 : decode cX8_join 97 = .ok (.aload_n 0, 1) := by decide +kernel
theorem dX8_join_98 : decode cX8_join 98 = .ok (.getfield 22, 3) := by decide +kernel
theorem dX8_join_101 : decode cX8_join 101 = .ok (.new 223, 3) := by decide +kernel
theorem dX8_join_104 : decode cX8_join 104 = .ok (.dup, 1) := by decide +kernel
theorem dX8_join_105 : decode cX8_join 105 = .ok (.iload_n 1, 1) := by decide +kernel
theorem dX8_join_106 : decode cX8_join 106 = .ok (.iload_n 2, 1) := by decide +kernel
theorem dX8_join_107 : decode cX8_join 107 = .ok (.iload_n 3, 1) := by decide +kernel
theorem dX8_join_108 : decode cX8_join 108 = .ok (.iconst 0, 1) := by decide +kernel
theorem dX8_join_109 : decode cX8_join 109 = .ok (.iconst 0, 1) := by decide +kernel
theorem dX8_join_110 : decode cX8_join 110 = .ok (.iload 4, 2) := by decide +kernel
theorem dX8_join_112 : decode cX8_join 112 = .ok (.invokespecial 234, 3) := by decide +kernel
theorem dX8_join_115 : decode cX8_join 115 = .ok (.invokevirtual 76, 3) := by decide +kernel
theorem dX8_join_118 : decode cX8_join 118 = .ok (.pop, 1) := by decide +kernel
theorem dX8_join_119 : decode cX8_join 119 = .ok (.aload_n 0, 1) := by decide +kernel
theorem dX8_join_120 : decode cX8_join 120 = .ok (.getfield 22, 3) := by decide +kernel
theorem dX8_join_123 : decode cX8_join 123 = .ok (.invokevirtual 64, 3) := by decide +kernel
theorem dX8_join_126 : decode cX8_join 126 = .ok (.iconst 1, 1) := by decide +kernel
theorem dX8_join_127 : decode cX8_join 127 = .ok (.isub, 1) := by decide +kernel
theorem dX8_join_128 : decode cX8_join 128 = .ok (.ireturn, 1) := by decide +kernel
theorem dX8_hits_0 : decode cX8_hits 0 = .ok (.aload_n 0, 1) := by decide +kernel
theorem dX8_hits_1 : decode cX8_hits 1 = .ok (.iload_n 1, 1) := by decide +kernel
theorem dX8_hits_2 : decode cX8_hits 2 = .ok (.iload_n 2, 1) := by decide +kernel
theorem dX8_hits_3 : decode cX8_hits 3 = .ok (.invokevirtual 251, 3) := by decide +kernel
theorem dX8_hits_6 : decode cX8_hits 6 = .ok (.pop, 1) := by decide +kernel
theorem dX8_hits_7 : decode cX8_hits 7 = .ok (.aload_n 0, 1) := by decide +kernel
theorem dX8_hits_8 : decode cX8_hits 8 = .ok (.getfield 47, 3) := by decide +kernel
theorem dX8_hits_11 : decode cX8_hits 11 = .ok (.getfield 255, 3) := by decide +kernel
theorem dX8_hits_14 : decode cX8_hits 14 = .ok (.ireturn, 1) := by decide +kernel
theorem dX8_hit_0 : decode cX8_hit 0 = .ok (.aload_n 0, 1) := by decide +kernel
theorem dX8_hit_1 : decode cX8_hit 1 = .ok (.iload_n 1, 1) := by decide +kernel
theorem dX8_hit_2 : decode cX8_hit 2 = .ok (.iload_n 2, 1) := by decide +kernel
theorem dX8_hit_3 : decode cX8_hit 3 = .ok (.invokevirtual 251, 3) := by decide +kernel
theorem dX8_hit_6 : decode cX8_hit 6 = .ok (.pop, 1) := by decide +kernel
theorem dX8_hit_7 : decode cX8_hit 7 = .ok (.aload_n 0, 1) := by decide +kernel
theorem dX8_hit_8 : decode cX8_hit 8 = .ok (.iload_n 3, 1) := by decide +kernel
theorem dX8_hit_9 : decode cX8_hit 9 = .ok (.invokevirtual 258, 3) := by decide +kernel
theorem dX8_hit_12 : decode cX8_hit 12 = .ok (.aload_n 0, 1) := by decide +kernel
theorem dX8_hit_13 : decode cX8_hit 13 = .ok (.getfield 47, 3) := by decide +kernel
theorem dX8_hit_16 : decode cX8_hit 16 = .ok (.iload_n 3, 1) := by decide +kernel
theorem dX8_hit_17 : decode cX8_hit 17 = .ok (.invokevirtual 261, 3) := by decide +kernel
theorem dX8_hit_20 : decode cX8_hit 20 = .ok (.ireturn, 1) := by decide +kernel
theorem dX8_score_0 : decode cX8_score 0 = .ok (.aload_n 0, 1) := by decide +kernel
theorem dX8_score_1 : decode cX8_score 1 = .ok (.iload_n 1, 1) := by decide +kernel
theorem dX8_score_2 : decode cX8_score 2 = .ok (.iload_n 2, 1) := by decide +kernel
theorem dX8_score_3 : decode cX8_score 3 = .ok (.invokevirtual 251, 3) := by decide +kernel
theorem dX8_score_6 : decode cX8_score 6 = .ok (.pop, 1) := by decide +kernel
theorem dX8_score_7 : decode cX8_score 7 = .ok (.aload_n 0, 1) := by decide +kernel
theorem dX8_score_8 : decode cX8_score 8 = .ok (.iload_n 3, 1) := by decide +kernel
theorem dX8_score_9 : decode cX8_score 9 = .ok (.invokevirtual 258, 3) := by decide +kernel
theorem dX8_score_12 : decode cX8_score 12 = .ok (.aload_n 0, 1) := by decide +kernel
theorem dX8_score_13 : decode cX8_score 13 = .ok (.getfield 47, 3) := by decide +kernel
theorem dX8_score_16 : decode cX8_score 16 = .ok (.aload_n 0, 1) := by decide +kernel
theorem dX8_score_17 : decode cX8_score 17 = .ok (.getfield 47, 3) := by decide +kernel
theorem dX8_score_20 : decode cX8_score 20 = .ok (.iload_n 3, 1) := by decide +kernel
theorem dX8_score_21 : decode cX8_score 21 = .ok (.invokevirtual 261, 3) := by decide +kernel
theorem dX8_score_24 : decode cX8_score 24 = .ok (.invokevirtual 264, 3) := by decide +kernel
theorem dX8_score_27 : decode cX8_score 27 = .ok (.i2l, 1) := by decide +kernel
theorem dX8_score_28 : decode cX8_score 28 = .ok (.lreturn, 1) := by decide +kernel
theorem dX8_scoreAlone_0 : decode cX8_scoreAlone 0 = .ok (.aload_n 0, 1) := by decide +kernel
theorem dX8_scoreAlone_1 : decode cX8_scoreAlone 1 = .ok (.iload_n 1, 1) := by decide +kernel
theorem dX8_scoreAlone_2 : decode cX8_scoreAlone 2 = .ok (.iload_n 2, 1) := by decide +kernel
theorem dX8_scoreAlone_3 : decode cX8_scoreAlone 3 = .ok (.invokevirtual 251, 3) := by decide +kernel
theorem dX8_scoreAlone_6 : decode cX8_scoreAlone 6 = .ok (.iload_n 3, 1) := by decide +kernel
theorem dX8_scoreAlone_7 : decode cX8_scoreAlone 7 = .ok (.invokevirtual 267, 3) := by decide +kernel
theorem dX8_scoreAlone_10 : decode cX8_scoreAlone 10 = .ok (.aload_n 0, 1) := by decide +kernel
theorem dX8_scoreAlone_11 : decode cX8_scoreAlone 11 = .ok (.getfield 47, 3) := by decide +kernel
theorem dX8_scoreAlone_14 : decode cX8_scoreAlone 14 = .ok (.iload_n 3, 1) := by decide +kernel
theorem dX8_scoreAlone_15 : decode cX8_scoreAlone 15 = .ok (.invokevirtual 264, 3) := by decide +kernel
theorem dX8_scoreAlone_18 : decode cX8_scoreAlone 18 = .ok (.i2l, 1) := by decide +kernel
theorem dX8_scoreAlone_19 : decode cX8_scoreAlone 19 = .ok (.lreturn, 1) := by decide +kernel
theorem dX8_tagged_0 : decode cX8_tagged 0 = .ok (.aload_n 0, 1) := by decide +kernel
theorem dX8_tagged_1 : decode cX8_tagged 1 = .ok (.iload_n 1, 1) := by decide +kernel
theorem dX8_tagged_2 : decode cX8_tagged 2 = .ok (.iload_n 2, 1) := by decide +kernel
theorem dX8_tagged_3 : decode cX8_tagged 3 = .ok (.invokevirtual 251, 3) := by decide +kernel
theorem dX8_tagged_6 : decode cX8_tagged 6 = .ok (.pop, 1) := by decide +kernel
theorem dX8_tagged_7 : decode cX8_tagged 7 = .ok (.iload_n 3, 1) := by decide +kernel
theorem dX8_tagged_8 : decode cX8_tagged 8 = .ok (.invokestatic 83, 3) := by decide +kernel
theorem dX8_tagged_11 : decode cX8_tagged 11 = .ok (.iconst 0, 1) := by decide +kernel
theorem dX8_tagged_12 : decode cX8_tagged 12 = .ok (.istore 4, 2) := by decide +kernel
theorem dX8_tagged_14 : decode cX8_tagged 14 = .ok (.iconst 0, 1) := by decide +kernel
theorem dX8_tagged_15 : decode cX8_tagged 15 = .ok (.istore 5, 2) := by decide +kernel
theorem dX8_tagged_17 : decode cX8_tagged 17 = .ok (.iload 5, 2) := by decide +kernel
theorem dX8_tagged_19 : decode cX8_tagged 19 = .ok (.aload_n 0, 1) := by decide +kernel
theorem dX8_tagged_20 : decode cX8_tagged 20 = .ok (.getfield 47, 3) := by decide +kernel
theorem dX8_tagged_23 : decode cX8_tagged 23 = .ok (.getfield 255, 3) := by decide +kernel
theorem dX8_tagged_26 : decode cX8_tagged 26 = .ok (.if_icmp .ge 29, 3) := by decide +kernel
theorem dX8_tagged_29 : decode cX8_tagged 29 = .ok (.aload_n 0, 1) := by decide +kernel
theorem dX8_tagged_30 : decode cX8_tagged 30 = .ok (.aload_n 0, 1) := by decide +kernel
theorem dX8_tagged_31 : decode cX8_tagged 31 = .ok (.getfield 47, 3) := by decide +kernel
theorem dX8_tagged_34 : decode cX8_tagged 34 = .ok (.iload 5, 2) := by decide +kernel
theorem dX8_tagged_36 : decode cX8_tagged 36 = .ok (.invokevirtual 261, 3) := by decide +kernel
theorem dX8_tagged_39 : decode cX8_tagged 39 = .ok (.invokevirtual 270, 3) := by decide +kernel
theorem dX8_tagged_42 : decode cX8_tagged 42 = .ok (.iload_n 3, 1) := by decide +kernel
theorem dX8_tagged_43 : decode cX8_tagged 43 = .ok (.if_icmp .ne 6, 3) := by decide +kernel
theorem dX8_tagged_46 : decode cX8_tagged 46 = .ok (.iinc 4 1, 3) := by decide +kernel
theorem dX8_tagged_49 : decode cX8_tagged 49 = .ok (.iinc 5 1, 3) := by decide +kernel
theorem dX8_tagged_52 : decode cX8_tagged 52 = .ok (.goto (-35), 3) := by decide +kernel
theorem dX8_tagged_55 : decode cX8_tagged 55 = .ok (.iload 4, 2) := by decide +kernel
theorem dX8_tagged_57 : decode cX8_tagged 57 = .ok (.ireturn, 1) := by decide +kernel
theorem dX8_firstTagged_0 : decode cX8_firstTagged 0 = .ok (.aload_n 0, 1) := by decide +kernel
theorem dX8_firstTagged_1 : decode cX8_firstTagged 1 = .ok (.iload_n 1, 1) := by decide +kernel
theorem dX8_firstTagged_2 : decode cX8_firstTagged 2 = .ok (.iload_n 2, 1) := by decide +kernel
theorem dX8_firstTagged_3 : decode cX8_firstTagged 3 = .ok (.invokevirtual 251, 3) := by decide +kernel
theorem dX8_firstTagged_6 : decode cX8_firstTagged 6 = .ok (.pop, 1) := by decide +kernel
theorem dX8_firstTagged_7 : decode cX8_firstTagged 7 = .ok (.iload_n 3, 1) := by decide +kernel
theorem dX8_firstTagged_8 : decode cX8_firstTagged 8 = .ok (.invokestatic 83, 3) := by decide +kernel
theorem dX8_firstTagged_11 : decode cX8_firstTagged 11 = .ok (.iconst 0, 1) := by decide +kernel
theorem dX8_firstTagged_12 : decode cX8_firstTagged 12 = .ok (.istore 4, 2) := by decide +kernel
theorem dX8_firstTagged_14 : decode cX8_firstTagged 14 = .ok (.iload 4, 2) := by decide +kernel
theorem dX8_firstTagged_16 : decode cX8_firstTagged 16 = .ok (.aload_n 0, 1) := by decide +kernel
theorem dX8_firstTagged_17 : decode cX8_firstTagged 17 = .ok (.getfield 47, 3) := by decide +kernel
theorem dX8_firstTagged_20 : decode cX8_firstTagged 20 = .ok (.getfield 255, 3) := by decide +kernel
theorem dX8_firstTagged_23 : decode cX8_firstTagged 23 = .ok (.if_icmp .ge 36, 3) := by decide +kernel
theorem dX8_firstTagged_26 : decode cX8_firstTagged 26 = .ok (.aload_n 0, 1) := by decide +kernel
theorem dX8_firstTagged_27 : decode cX8_firstTagged 27 = .ok (.aload_n 0, 1) := by decide +kernel
theorem dX8_firstTagged_28 : decode cX8_firstTagged 28 = .ok (.getfield 47, 3) := by decide +kernel
theorem dX8_firstTagged_31 : decode cX8_firstTagged 31 = .ok (.iload 4, 2) := by decide +kernel
theorem dX8_firstTagged_33 : decode cX8_firstTagged 33 = .ok (.invokevirtual 261, 3) := by decide +kernel
theorem dX8_firstTagged_36 : decode cX8_firstTagged 36 = .ok (.invokevirtual 270, 3) := by decide +kernel
theorem dX8_firstTagged_39 : decode cX8_firstTagged 39 = .ok (.iload_n 3, 1) := by decide +kernel
theorem dX8_firstTagged_40 : decode cX8_firstTagged 40 = .ok (.if_icmp .ne 13, 3) := by decide +kernel
theorem dX8_firstTagged_43 : decode cX8_firstTagged 43 = .ok (.aload_n 0, 1) := by decide +kernel
theorem dX8_firstTagged_44 : decode cX8_firstTagged 44 = .ok (.getfield 47, 3) := by decide +kernel
theorem dX8_firstTagged_47 : decode cX8_firstTagged 47 = .ok (.iload 4, 2) := by decide +kernel
theorem dX8_firstTagged_49 : decode cX8_firstTagged 49 = .ok (.invokevirtual 261, 3) := by decide +kernel
theorem dX8_firstTagged_52 : decode cX8_firstTagged 52 = .ok (.ireturn, 1) := by decide +kernel
theorem dX8_firstTagged_53 : decode cX8_firstTagged 53 = .ok (.iinc 4 1, 3) := by decide +kernel
theorem dX8_firstTagged_56 : decode cX8_firstTagged 56 = .ok (.goto (-42), 3) := by decide +kernel
theorem dX8_firstTagged_59 : decode cX8_firstTagged 59 = .ok (.new 273, 3) := by decide +kernel
theorem dX8_firstTagged_62 : decode cX8_firstTagged 62 = .ok (.dup, 1) := by decide +kernel
theorem dX8_firstTagged_63 : decode cX8_firstTagged 63 = .ok (.ldc_w 275, 3) := by decide +kernel
theorem dX8_firstTagged_66 : decode cX8_firstTagged 66 = .ok (.invokespecial 277, 3) := by decide +kernel
theorem dX8_firstTagged_69 : decode cX8_firstTagged 69 = .ok (.athrow, 1) := by decide +kernel
theorem dX8_wholes_0 : decode cX8_wholes 0 = .ok (.aload_n 0, 1) := by decide +kernel
theorem dX8_wholes_1 : decode cX8_wholes 1 = .ok (.iload_n 1, 1) := by decide +kernel
theorem dX8_wholes_2 : decode cX8_wholes 2 = .ok (.iload_n 2, 1) := by decide +kernel
theorem dX8_wholes_3 : decode cX8_wholes 3 = .ok (.invokevirtual 251, 3) := by decide +kernel
theorem dX8_wholes_6 : decode cX8_wholes 6 = .ok (.astore_n 3, 1) := by decide +kernel
theorem dX8_wholes_7 : decode cX8_wholes 7 = .ok (.iconst 0, 1) := by decide +kernel
theorem dX8_wholes_8 : decode cX8_wholes 8 = .ok (.istore 4, 2) := by decide +kernel
theorem dX8_wholes_10 : decode cX8_wholes 10 = .ok (.iconst 0, 1) := by decide +kernel
theorem dX8_wholes_11 : decode cX8_wholes 11 = .ok (.istore 5, 2) := by decide +kernel
theorem dX8_wholes_13 : decode cX8_wholes 13 = .ok (.iload 5, 2) := by decide +kernel
theorem dX8_wholes_15 : decode cX8_wholes 15 = .ok (.aload_n 0, 1) := by decide +kernel
theorem dX8_wholes_16 : decode cX8_wholes 16 = .ok (.getfield 16, 3) := by decide +kernel
theorem dX8_wholes_19 : decode cX8_wholes 19 = .ok (.invokevirtual 64, 3) := by decide +kernel
theorem dX8_wholes_22 : decode cX8_wholes 22 = .ok (.if_icmp .ge 31, 3) := by decide +kernel
theorem dX8_wholes_25 : decode cX8_wholes 25 = .ok (.aload_n 3, 1) := by decide +kernel
theorem dX8_wholes_26 : decode cX8_wholes 26 = .ok (.iload 5, 2) := by decide +kernel
theorem dX8_wholes_28 : decode cX8_wholes 28 = .ok (.invokevirtual 278, 3) := by decide +kernel
theorem dX8_wholes_31 : decode cX8_wholes 31 = .ok (.ifCond .eq 16, 3) := by decide +kernel
theorem dX8_wholes_34 : decode cX8_wholes 34 = .ok (.aload_n 0, 1) := by decide +kernel
theorem dX8_wholes_35 : decode cX8_wholes 35 = .ok (.iload 5, 2) := by decide +kernel
theorem dX8_wholes_37 : decode cX8_wholes 37 = .ok (.invokevirtual 281, 3) := by decide +kernel
theorem dX8_wholes_40 : decode cX8_wholes 40 = .ok (.iconst (-1), 1) := by decide +kernel
theorem dX8_wholes_41 : decode cX8_wholes 41 = .ok (.if_icmp .eq 6, 3) := by decide +kernel
theorem dX8_wholes_44 : decode cX8_wholes 44 = .ok (.iinc 4 1, 3) := by decide +kernel
theorem dX8_wholes_47 : decode cX8_wholes 47 = .ok (.iinc 5 1, 3) := by decide +kernel
theorem dX8_wholes_50 : decode cX8_wholes 50 = .ok (.goto (-37), 3) := by decide +kernel
theorem dX8_wholes_53 : decode cX8_wholes 53 = .ok (.iload 4, 2) := by decide +kernel
theorem dX8_wholes_55 : decode cX8_wholes 55 = .ok (.ireturn, 1) := by decide +kernel
theorem dX8_wholeScore_0 : decode cX8_wholeScore 0 = .ok (.aload_n 0, 1) := by decide +kernel
theorem dX8_wholeScore_1 : decode cX8_wholeScore 1 = .ok (.iload_n 1, 1) := by decide +kernel
theorem dX8_wholeScore_2 : decode cX8_wholeScore 2 = .ok (.iload_n 2, 1) := by decide +kernel
theorem dX8_wholeScore_3 : decode cX8_wholeScore 3 = .ok (.invokevirtual 251, 3) := by decide +kernel
theorem dX8_wholeScore_6 : decode cX8_wholeScore 6 = .ok (.iload_n 3, 1) := by decide +kernel
theorem dX8_wholeScore_7 : decode cX8_wholeScore 7 = .ok (.invokevirtual 267, 3) := by decide +kernel
theorem dX8_wholeScore_10 : decode cX8_wholeScore 10 = .ok (.aload_n 0, 1) := by decide +kernel
theorem dX8_wholeScore_11 : decode cX8_wholeScore 11 = .ok (.iload_n 3, 1) := by decide +kernel
theorem dX8_wholeScore_12 : decode cX8_wholeScore 12 = .ok (.invokevirtual 281, 3) := by decide +kernel
theorem dX8_wholeScore_15 : decode cX8_wholeScore 15 = .ok (.istore 4, 2) := by decide +kernel
theorem dX8_wholeScore_17 : decode cX8_wholeScore 17 = .ok (.iload 4, 2) := by decide +kernel
theorem dX8_wholeScore_19 : decode cX8_wholeScore 19 = .ok (.iconst (-1), 1) := by decide +kernel
theorem dX8_wholeScore_20 : decode cX8_wholeScore 20 = .ok (.if_icmp .ne 14, 3) := by decide +kernel
theorem dX8_wholeScore_23 : decode cX8_wholeScore 23 = .ok (.new 273, 3) := by decide +kernel
theorem dX8_wholeScore_26 : decode cX8_wholeScore 26 = .ok (.dup, 1) := by decide +kernel
theorem dX8_wholeScore_27 : decode cX8_wholeScore 27 = .ok (.ldc_w 284, 3) := by decide +kernel
theorem dX8_wholeScore_30 : decode cX8_wholeScore 30 = .ok (.invokespecial 277, 3) := by decide +kernel
theorem dX8_wholeScore_33 : decode cX8_wholeScore 33 = .ok (.athrow, 1) := by decide +kernel
theorem dX8_wholeScore_34 : decode cX8_wholeScore 34 = .ok (.iload 4, 2) := by decide +kernel
theorem dX8_wholeScore_36 : decode cX8_wholeScore 36 = .ok (.i2l, 1) := by decide +kernel
theorem dX8_wholeScore_37 : decode cX8_wholeScore 37 = .ok (.lreturn, 1) := by decide +kernel
theorem dX8_marked_0 : decode cX8_marked 0 = .ok (.aload_n 0, 1) := by decide +kernel
theorem dX8_marked_1 : decode cX8_marked 1 = .ok (.iload_n 1, 1) := by decide +kernel
theorem dX8_marked_2 : decode cX8_marked 2 = .ok (.invokevirtual 243, 3) := by decide +kernel
theorem dX8_marked_5 : decode cX8_marked 5 = .ok (.aload_n 0, 1) := by decide +kernel
theorem dX8_marked_6 : decode cX8_marked 6 = .ok (.getfield 47, 3) := by decide +kernel
theorem dX8_marked_9 : decode cX8_marked 9 = .ok (.aload_n 0, 1) := by decide +kernel
theorem dX8_marked_10 : decode cX8_marked 10 = .ok (.getfield 22, 3) := by decide +kernel
theorem dX8_marked_13 : decode cX8_marked 13 = .ok (.iload_n 1, 1) := by decide +kernel
theorem dX8_marked_14 : decode cX8_marked 14 = .ok (.aload_n 0, 1) := by decide +kernel
theorem dX8_marked_15 : decode cX8_marked 15 = .ok (.iload_n 2, 1) := by decide +kernel
theorem dX8_marked_16 : decode cX8_marked 16 = .ok (.invokevirtual 149, 3) := by decide +kernel
theorem dX8_marked_19 : decode cX8_marked 19 = .ok (.getfield 110, 3) := by decide +kernel
theorem dX8_marked_22 : decode cX8_marked 22 = .ok (.iload_n 3, 1) := by decide +kernel
theorem dX8_marked_23 : decode cX8_marked 23 = .ok (.invokevirtual 286, 3) := by decide +kernel
theorem dX8_marked_26 : decode cX8_marked 26 = .ok (.istore 4, 2) := by decide +kernel
theorem dX8_marked_28 : decode cX8_marked 28 = .ok (.iload 4, 2) := by decide +kernel
theorem dX8_marked_30 : decode cX8_marked 30 = .ok (.iconst (-1), 1) := by decide +kernel
theorem dX8_marked_31 : decode cX8_marked 31 = .ok (.if_icmp .ne 14, 3) := by decide +kernel
theorem dX8_marked_34 : decode cX8_marked 34 = .ok (.new 273, 3) := by decide +kernel
theorem dX8_marked_37 : decode cX8_marked 37 = .ok (.dup, 1) := by decide +kernel
theorem dX8_marked_38 : decode cX8_marked 38 = .ok (.ldc_w 290, 3) := by decide +kernel
theorem dX8_marked_41 : decode cX8_marked 41 = .ok (.invokespecial 277, 3) := by decide +kernel
theorem dX8_marked_44 : decode cX8_marked 44 = .ok (.athrow, 1) := by decide +kernel
theorem dX8_marked_45 : decode cX8_marked 45 = .ok (.iload 4, 2) := by decide +kernel
theorem dX8_marked_47 : decode cX8_marked 47 = .ok (.ireturn, 1) := by decide +kernel
theorem dX8_click_0 : decode cX8_click 0 = .ok (.aload_n 0, 1) := by decide +kernel
theorem dX8_click_1 : decode cX8_click 1 = .ok (.iload_n 1, 1) := by decide +kernel
theorem dX8_click_2 : decode cX8_click 2 = .ok (.invokevirtual 149, 3) := by decide +kernel
theorem dX8_click_5 : decode cX8_click 5 = .ok (.astore_n 2, 1) := by decide +kernel
theorem dX8_click_6 : decode cX8_click 6 = .ok (.aload_n 2, 1) := by decide +kernel
theorem dX8_click_7 : decode cX8_click 7 = .ok (.dup, 1) := by decide +kernel
theorem dX8_click_8 : decode cX8_click 8 = .ok (.getfield 292, 3) := by decide +kernel
theorem dX8_click_11 : decode cX8_click 11 = .ok (.iconst 1, 1) := by decide +kernel
theorem dX8_click_12 : decode cX8_click 12 = .ok (.iadd, 1) := by decide +kernel
theorem dX8_click_13 : decode cX8_click 13 = .ok (.putfield 292, 3) := by decide +kernel
theorem dX8_click_16 : decode cX8_click 16 = .ok (.aload_n 2, 1) := by decide +kernel
theorem dX8_click_17 : decode cX8_click 17 = .ok (.getfield 292, 3) := by decide +kernel
theorem dX8_click_20 : decode cX8_click 20 = .ok (.ireturn, 1) := by decide +kernel
theorem dX8_setBound_0 : decode cX8_setBound 0 = .ok (.iload_n 1, 1) := by decide +kernel
theorem dX8_setBound_1 : decode cX8_setBound 1 = .ok (.ifCond .lt 10, 3) := by decide +kernel
theorem dX8_setBound_4 : decode cX8_setBound 4 = .ok (.iload_n 1, 1) := by decide +kernel
theorem dX8_setBound_5 : decode cX8_setBound 5 = .ok (.sipush 999, 3) := by decide +kernel
theorem dX8_setBound_8 : decode cX8_setBound 8 = .ok (.if_icmp .le 14, 3) := by decide +kernel
theorem dX8_setBound_11 : decode cX8_setBound 11 = .ok (.new 57, 3) := by decide +kernel
theorem dX8_setBound_14 : decode cX8_setBound 14 = .ok (.dup, 1) := by decide +kernel
theorem dX8_setBound_15 : decode cX8_setBound 15 = .ok (.ldc_w 295, 3) := by decide +kernel
theorem dX8_setBound_18 : decode cX8_setBound 18 = .ok (.invokespecial 61, 3) := by decide +kernel
theorem dX8_setBound_21 : decode cX8_setBound 21 = .ok (.athrow, 1) := by decide +kernel
theorem dX8_setBound_22 : decode cX8_setBound 22 = .ok (.aload_n 0, 1) := by decide +kernel
theorem dX8_setBound_23 : decode cX8_setBound 23 = .ok (.getfield 297, 3) := by decide +kernel
theorem dX8_setBound_26 : decode cX8_setBound 26 = .ok (.istore_n 2, 1) := by decide +kernel
theorem dX8_setBound_27 : decode cX8_setBound 27 = .ok (.aload_n 0, 1) := by decide +kernel
theorem dX8_setBound_28 : decode cX8_setBound 28 = .ok (.iload_n 1, 1) := by decide +kernel
theorem dX8_setBound_29 : decode cX8_setBound 29 = .ok (.putfield 297, 3) := by decide +kernel
theorem dX8_setBound_32 : decode cX8_setBound 32 = .ok (.iload_n 2, 1) := by decide +kernel
theorem dX8_setBound_33 : decode cX8_setBound 33 = .ok (.ireturn, 1) := by decide +kernel
theorem dX8_turned_0 : decode cX8_turned 0 = .ok (.aload_n 0, 1) := by decide +kernel
theorem dX8_turned_1 : decode cX8_turned 1 = .ok (.iload_n 1, 1) := by decide +kernel
theorem dX8_turned_2 : decode cX8_turned 2 = .ok (.iload_n 2, 1) := by decide +kernel
theorem dX8_turned_3 : decode cX8_turned 3 = .ok (.invokevirtual 251, 3) := by decide +kernel
theorem dX8_turned_6 : decode cX8_turned 6 = .ok (.pop, 1) := by decide +kernel
theorem dX8_turned_7 : decode cX8_turned 7 = .ok (.iconst 0, 1) := by decide +kernel
theorem dX8_turned_8 : decode cX8_turned 8 = .ok (.istore_n 3, 1) := by decide +kernel
theorem dX8_turned_9 : decode cX8_turned 9 = .ok (.iconst 1, 1) := by decide +kernel
theorem dX8_turned_10 : decode cX8_turned 10 = .ok (.istore 4, 2) := by decide +kernel
theorem dX8_turned_12 : decode cX8_turned 12 = .ok (.iload 4, 2) := by decide +kernel
theorem dX8_turned_14 : decode cX8_turned 14 = .ok (.aload_n 0, 1) := by decide +kernel
theorem dX8_turned_15 : decode cX8_turned 15 = .ok (.getfield 47, 3) := by decide +kernel
theorem dX8_turned_18 : decode cX8_turned 18 = .ok (.getfield 255, 3) := by decide +kernel
theorem dX8_turned_21 : decode cX8_turned 21 = .ok (.if_icmp .ge 63, 3) := by decide +kernel
theorem dX8_turned_24 : decode cX8_turned 24 = .ok (.iconst 0, 1) := by decide +kernel
theorem dX8_turned_25 : decode cX8_turned 25 = .ok (.istore 5, 2) := by decide +kernel
theorem dX8_turned_27 : decode cX8_turned 27 = .ok (.iload 5, 2) := by decide +kernel
theorem dX8_turned_29 : decode cX8_turned 29 = .ok (.iload 4, 2) := by decide +kernel
theorem dX8_turned_31 : decode cX8_turned 31 = .ok (.if_icmp .ge 47, 3) := by decide +kernel
theorem dX8_turned_34 : decode cX8_turned 34 = .ok (.aload_n 0, 1) := by decide +kernel
theorem dX8_turned_35 : decode cX8_turned 35 = .ok (.getfield 47, 3) := by decide +kernel
theorem dX8_turned_38 : decode cX8_turned 38 = .ok (.aload_n 0, 1) := by decide +kernel
theorem dX8_turned_39 : decode cX8_turned 39 = .ok (.getfield 47, 3) := by decide +kernel
theorem dX8_turned_42 : decode cX8_turned 42 = .ok (.iload 5, 2) := by decide +kernel
theorem dX8_turned_44 : decode cX8_turned 44 = .ok (.invokevirtual 261, 3) := by decide +kernel
theorem dX8_turned_47 : decode cX8_turned 47 = .ok (.invokevirtual 264, 3) := by decide +kernel
theorem dX8_turned_50 : decode cX8_turned 50 = .ok (.aload_n 0, 1) := by decide +kernel
theorem dX8_turned_51 : decode cX8_turned 51 = .ok (.getfield 47, 3) := by decide +kernel
theorem dX8_turned_54 : decode cX8_turned 54 = .ok (.aload_n 0, 1) := by decide +kernel
theorem dX8_turned_55 : decode cX8_turned 55 = .ok (.getfield 47, 3) := by decide +kernel
theorem dX8_turned_58 : decode cX8_turned 58 = .ok (.iload 4, 2) := by decide +kernel
theorem dX8_turned_60 : decode cX8_turned 60 = .ok (.invokevirtual 261, 3) := by decide +kernel
theorem dX8_turned_63 : decode cX8_turned 63 = .ok (.invokevirtual 264, 3) := by decide +kernel
theorem dX8_turned_66 : decode cX8_turned 66 = .ok (.if_icmp .ge 6, 3) := by decide +kernel
theorem dX8_turned_69 : decode cX8_turned 69 = .ok (.iinc 3 1, 3) := by decide +kernel
theorem dX8_turned_72 : decode cX8_turned 72 = .ok (.iinc 5 1, 3) := by decide +kernel
theorem dX8_turned_75 : decode cX8_turned 75 = .ok (.goto (-48), 3) := by decide +kernel
theorem dX8_turned_78 : decode cX8_turned 78 = .ok (.iinc 4 1, 3) := by decide +kernel
theorem dX8_turned_81 : decode cX8_turned 81 = .ok (.goto (-69), 3) := by decide +kernel
theorem dX8_turned_84 : decode cX8_turned 84 = .ok (.iload_n 3, 1) := by decide +kernel
theorem dX8_turned_85 : decode cX8_turned 85 = .ok (.ireturn, 1) := by decide +kernel
theorem dX8_removedShare_0 : decode cX8_removedShare 0 = .ok (.aload_n 0, 1) := by decide +kernel
theorem dX8_removedShare_1 : decode cX8_removedShare 1 = .ok (.getfield 28, 3) := by decide +kernel
theorem dX8_removedShare_4 : decode cX8_removedShare 4 = .ok (.invokevirtual 300, 3) := by decide +kernel
theorem dX8_removedShare_7 : decode cX8_removedShare 7 = .ok (.istore_n 1, 1) := by decide +kernel
theorem dX8_removedShare_8 : decode cX8_removedShare 8 = .ok (.iload_n 1, 1) := by decide +kernel
theorem dX8_removedShare_9 : decode cX8_removedShare 9 = .ok (.ifCond .ne 14, 3) := by decide +kernel
theorem dX8_removedShare_12 : decode cX8_removedShare 12 = .ok (.new 303, 3) := by decide +kernel
theorem dX8_removedShare_15 : decode cX8_removedShare 15 = .ok (.dup, 1) := by decide +kernel
theorem dX8_removedShare_16 : decode cX8_removedShare 16 = .ok (.ldc_w 305, 3) := by decide +kernel
theorem dX8_removedShare_19 : decode cX8_removedShare 19 = .ok (.invokespecial 307, 3) := by decide +kernel
theorem dX8_removedShare_22 : decode cX8_removedShare 22 = .ok (.athrow, 1) := by decide +kernel
theorem dX8_removedShare_23 : decode cX8_removedShare 23 = .ok (.aload_n 0, 1) := by decide +kernel
theorem dX8_removedShare_24 : decode cX8_removedShare 24 = .ok (.getfield 28, 3) := by decide +kernel
theorem dX8_removedShare_27 : decode cX8_removedShare 27 = .ok (.invokevirtual 308, 3) := by decide +kernel
theorem dX8_removedShare_30 : decode cX8_removedShare 30 = .ok (.i2f, 1) := by decide +kernel
theorem dX8_removedShare_31 : decode cX8_removedShare 31 = .ok (.iload_n 1, 1) := by decide +kernel
theorem dX8_removedShare_32 : decode cX8_removedShare 32 = .ok (.i2f, 1) := by decide +kernel
theorem dX8_removedShare_33 : decode cX8_removedShare 33 = .ok (.fdiv, 1) := by decide +kernel
theorem dX8_removedShare_34 : decode cX8_removedShare 34 = .ok (.freturn, 1) := by decide +kernel
theorem dX8_meanLength_0 : decode cX8_meanLength 0 = .ok (.aload_n 0, 1) := by decide +kernel
theorem dX8_meanLength_1 : decode cX8_meanLength 1 = .ok (.iload_n 1, 1) := by decide +kernel
theorem dX8_meanLength_2 : decode cX8_meanLength 2 = .ok (.invokevirtual 217, 3) := by decide +kernel
theorem dX8_meanLength_5 : decode cX8_meanLength 5 = .ok (.astore_n 2, 1) := by decide +kernel
theorem dX8_meanLength_6 : decode cX8_meanLength 6 = .ok (.aload_n 2, 1) := by decide +kernel
theorem dX8_meanLength_7 : decode cX8_meanLength 7 = .ok (.getfield 221, 3) := by decide +kernel
theorem dX8_meanLength_10 : decode cX8_meanLength 10 = .ok (.ifCond .ne 14, 3) := by decide +kernel
theorem dX8_meanLength_13 : decode cX8_meanLength 13 = .ok (.new 303, 3) := by decide +kernel
theorem dX8_meanLength_16 : decode cX8_meanLength 16 = .ok (.dup, 1) := by decide +kernel
theorem dX8_meanLength_17 : decode cX8_meanLength 17 = .ok (.ldc_w 311, 3) := by decide +kernel
theorem dX8_meanLength_20 : decode cX8_meanLength 20 = .ok (.invokespecial 307, 3) := by decide +kernel
theorem dX8_meanLength_23 : decode cX8_meanLength 23 = .ok (.athrow, 1) := by decide +kernel
theorem dX8_meanLength_24 : decode cX8_meanLength 24 = .ok (.iconst 0, 1) := by decide +kernel
theorem dX8_meanLength_25 : decode cX8_meanLength 25 = .ok (.istore_n 3, 1) := by decide +kernel
theorem dX8_meanLength_26 : decode cX8_meanLength 26 = .ok (.iconst 0, 1) := by decide +kernel
theorem dX8_meanLength_27 : decode cX8_meanLength 27 = .ok (.istore 4, 2) := by decide +kernel
theorem dX8_meanLength_29 : decode cX8_meanLength 29 = .ok (.iload 4, 2) := by decide +kernel
theorem dX8_meanLength_31 : decode cX8_meanLength 31 = .ok (.aload_n 0, 1) := by decide +kernel
theorem dX8_meanLength_32 : decode cX8_meanLength 32 = .ok (.getfield 16, 3) := by decide +kernel
theorem dX8_meanLength_35 : decode cX8_meanLength 35 = .ok (.invokevirtual 64, 3) := by decide +kernel
theorem dX8_meanLength_38 : decode cX8_meanLength 38 = .ok (.if_icmp .ge 39, 3) := by decide +kernel
theorem dX8_meanLength_41 : decode cX8_meanLength 41 = .ok (.aload_n 2, 1) := by decide +kernel
theorem dX8_meanLength_42 : decode cX8_meanLength 42 = .ok (.iload 4, 2) := by decide +kernel
theorem dX8_meanLength_44 : decode cX8_meanLength 44 = .ok (.invokevirtual 278, 3) := by decide +kernel
theorem dX8_meanLength_47 : decode cX8_meanLength 47 = .ok (.ifCond .eq 24, 3) := by decide +kernel
theorem dX8_meanLength_50 : decode cX8_meanLength 50 = .ok (.iload_n 3, 1) := by decide +kernel
theorem dX8_meanLength_51 : decode cX8_meanLength 51 = .ok (.aload_n 0, 1) := by decide +kernel
theorem dX8_meanLength_52 : decode cX8_meanLength 52 = .ok (.getfield 16, 3) := by decide +kernel
theorem dX8_meanLength_55 : decode cX8_meanLength 55 = .ok (.iload 4, 2) := by decide +kernel
theorem dX8_meanLength_57 : decode cX8_meanLength 57 = .ok (.invokevirtual 126, 3) := by decide +kernel
theorem dX8_meanLength_60 : decode cX8_meanLength 60 = .ok (.checkcast 97, 3) := by decide +kernel
theorem dX8_meanLength_63 : decode cX8_meanLength 63 = .ok (.getfield 110, 3) := by decide +kernel
theorem dX8_meanLength_66 : decode cX8_meanLength 66 = .ok (.getfield 114, 3) := by decide +kernel
theorem dX8_meanLength_69 : decode cX8_meanLength 69 = .ok (.iadd, 1) := by decide +kernel
theorem dX8_meanLength_70 : decode cX8_meanLength 70 = .ok (.istore_n 3, 1) := by decide +kernel
theorem dX8_meanLength_71 : decode cX8_meanLength 71 = .ok (.iinc 4 1, 3) := by decide +kernel
theorem dX8_meanLength_74 : decode cX8_meanLength 74 = .ok (.goto (-45), 3) := by decide +kernel
theorem dX8_meanLength_77 : decode cX8_meanLength 77 = .ok (.iload_n 3, 1) := by decide +kernel
theorem dX8_meanLength_78 : decode cX8_meanLength 78 = .ok (.i2d, 1) := by decide +kernel
theorem dX8_meanLength_79 : decode cX8_meanLength 79 = .ok (.aload_n 2, 1) := by decide +kernel
theorem dX8_meanLength_80 : decode cX8_meanLength 80 = .ok (.getfield 221, 3) := by decide +kernel
theorem dX8_meanLength_83 : decode cX8_meanLength 83 = .ok (.i2d, 1) := by decide +kernel
theorem dX8_meanLength_84 : decode cX8_meanLength 84 = .ok (.ddiv, 1) := by decide +kernel
theorem dX8_meanLength_85 : decode cX8_meanLength 85 = .ok (.dreturn, 1) := by decide +kernel
theorem dX8_isWord_0 : decode cX8_isWord 0 = .ok (.iload_n 0, 1) := by decide +kernel
theorem dX8_isWord_1 : decode cX8_isWord 1 = .ok (.ifCond .lt 13, 3) := by decide +kernel
theorem dX8_isWord_4 : decode cX8_isWord 4 = .ok (.iload_n 0, 1) := by decide +kernel
theorem dX8_isWord_5 : decode cX8_isWord 5 = .ok (.bipush 60, 2) := by decide +kernel
theorem dX8_isWord_7 : decode cX8_isWord 7 = .ok (.if_icmp .ge 7, 3) := by decide +kernel
theorem dX8_isWord_10 : decode cX8_isWord 10 = .ok (.iconst 1, 1) := by decide +kernel
theorem dX8_isWord_11 : decode cX8_isWord 11 = .ok (.goto 4, 3) := by decide +kernel
theorem dX8_isWord_14 : decode cX8_isWord 14 = .ok (.iconst 0, 1) := by decide +kernel
theorem dX8_isWord_15 : decode cX8_isWord 15 = .ok (.ireturn, 1) := by decide +kernel
theorem dX8_checkTag_0 : decode cX8_checkTag 0 = .ok (.iload_n 0, 1) := by decide +kernel
theorem dX8_checkTag_1 : decode cX8_checkTag 1 = .ok (.ifCond .lt 9, 3) := by decide +kernel
theorem dX8_checkTag_4 : decode cX8_checkTag 4 = .ok (.iload_n 0, 1) := by decide +kernel
theorem dX8_checkTag_5 : decode cX8_checkTag 5 = .ok (.bipush 6, 2) := by decide +kernel
theorem dX8_checkTag_7 : decode cX8_checkTag 7 = .ok (.if_icmp .lt 14, 3) := by decide +kernel
theorem dX8_checkTag_10 : decode cX8_checkTag 10 = .ok (.new 57, 3) := by decide +kernel
theorem dX8_checkTag_13 : decode cX8_checkTag 13 = .ok (.dup, 1) := by decide +kernel
theorem dX8_checkTag_14 : decode cX8_checkTag 14 = .ok (.ldc_w 313, 3) := by decide +kernel
theorem dX8_checkTag_17 : decode cX8_checkTag 17 = .ok (.invokespecial 61, 3) := by decide +kernel
theorem dX8_checkTag_20 : decode cX8_checkTag 20 = .ok (.athrow, 1) := by decide +kernel
theorem dX8_checkTag_21 : decode cX8_checkTag 21 = .ok (.return_, 1) := by decide +kernel
theorem dX8_checkDocument_0 : decode cX8_checkDocument 0 = .ok (.iload_n 1, 1) := by decide +kernel
theorem dX8_checkDocument_1 : decode cX8_checkDocument 1 = .ok (.ifCond .lt 14, 3) := by decide +kernel
theorem dX8_checkDocument_4 : decode cX8_checkDocument 4 = .ok (.iload_n 1, 1) := by decide +kernel
theorem dX8_checkDocument_5 : decode cX8_checkDocument 5 = .ok (.aload_n 0, 1) := by decide +kernel
theorem dX8_checkDocument_6 : decode cX8_checkDocument 6 = .ok (.getfield 16, 3) := by decide +kernel
theorem dX8_checkDocument_9 : decode cX8_checkDocument 9 = .ok (.invokevirtual 64, 3) := by decide +kernel
theorem dX8_checkDocument_12 : decode cX8_checkDocument 12 = .ok (.if_icmp .lt 14, 3) := by decide +kernel
theorem dX8_checkDocument_15 : decode cX8_checkDocument 15 = .ok (.new 166, 3) := by decide +kernel
theorem dX8_checkDocument_18 : decode cX8_checkDocument 18 = .ok (.dup, 1) := by decide +kernel
theorem dX8_checkDocument_19 : decode cX8_checkDocument 19 = .ok (.ldc_w 315, 3) := by decide +kernel
theorem dX8_checkDocument_22 : decode cX8_checkDocument 22 = .ok (.invokespecial 170, 3) := by decide +kernel
theorem dX8_checkDocument_25 : decode cX8_checkDocument 25 = .ok (.athrow, 1) := by decide +kernel
theorem dX8_checkDocument_26 : decode cX8_checkDocument 26 = .ok (.return_, 1) := by decide +kernel
theorem dX8_checkQuery_0 : decode cX8_checkQuery 0 = .ok (.iload_n 1, 1) := by decide +kernel
theorem dX8_checkQuery_1 : decode cX8_checkQuery 1 = .ok (.ifCond .lt 14, 3) := by decide +kernel
theorem dX8_checkQuery_4 : decode cX8_checkQuery 4 = .ok (.iload_n 1, 1) := by decide +kernel
theorem dX8_checkQuery_5 : decode cX8_checkQuery 5 = .ok (.aload_n 0, 1) := by decide +kernel
theorem dX8_checkQuery_6 : decode cX8_checkQuery 6 = .ok (.getfield 22, 3) := by decide +kernel
theorem dX8_checkQuery_9 : decode cX8_checkQuery 9 = .ok (.invokevirtual 64, 3) := by decide +kernel
theorem dX8_checkQuery_12 : decode cX8_checkQuery 12 = .ok (.if_icmp .lt 14, 3) := by decide +kernel
theorem dX8_checkQuery_15 : decode cX8_checkQuery 15 = .ok (.new 166, 3) := by decide +kernel
theorem dX8_checkQuery_18 : decode cX8_checkQuery 18 = .ok (.dup, 1) := by decide +kernel
theorem dX8_checkQuery_19 : decode cX8_checkQuery 19 = .ok (.ldc_w 317, 3) := by decide +kernel
theorem dX8_checkQuery_22 : decode cX8_checkQuery 22 = .ok (.invokespecial 170, 3) := by decide +kernel
theorem dX8_checkQuery_25 : decode cX8_checkQuery 25 = .ok (.athrow, 1) := by decide +kernel
theorem dX8_checkQuery_26 : decode cX8_checkQuery 26 = .ok (.return_, 1) := by decide +kernel
theorem dX8_documentNumbered_0 : decode cX8_documentNumbered 0 = .ok (.aload_n 0, 1) := by decide +kernel
theorem dX8_documentNumbered_1 : decode cX8_documentNumbered 1 = .ok (.iload_n 1, 1) := by decide +kernel
theorem dX8_documentNumbered_2 : decode cX8_documentNumbered 2 = .ok (.invokevirtual 86, 3) := by decide +kernel
theorem dX8_documentNumbered_5 : decode cX8_documentNumbered 5 = .ok (.aload_n 0, 1) := by decide +kernel
theorem dX8_documentNumbered_6 : decode cX8_documentNumbered 6 = .ok (.getfield 16, 3) := by decide +kernel
theorem dX8_documentNumbered_9 : decode cX8_documentNumbered 9 = .ok (.iload_n 1, 1) := by decide +kernel
theorem dX8_documentNumbered_10 : decode cX8_documentNumbered 10 = .ok (.invokevirtual 126, 3) := by decide +kernel
theorem dX8_documentNumbered_13 : decode cX8_documentNumbered 13 = .ok (.checkcast 97, 3) := by decide +kernel
theorem dX8_documentNumbered_16 : decode cX8_documentNumbered 16 = .ok (.areturn, 1) := by decide +kernel
theorem dX8_slotOf_0 : decode cX8_slotOf 0 = .ok (.iconst 0, 1) := by decide +kernel
theorem dX8_slotOf_1 : decode cX8_slotOf 1 = .ok (.istore_n 2, 1) := by decide +kernel
theorem dX8_slotOf_2 : decode cX8_slotOf 2 = .ok (.iload_n 2, 1) := by decide +kernel
theorem dX8_slotOf_3 : decode cX8_slotOf 3 = .ok (.aload_n 0, 1) := by decide +kernel
theorem dX8_slotOf_4 : decode cX8_slotOf 4 = .ok (.getfield 19, 3) := by decide +kernel
theorem dX8_slotOf_7 : decode cX8_slotOf 7 = .ok (.invokevirtual 64, 3) := by decide +kernel
theorem dX8_slotOf_10 : decode cX8_slotOf 10 = .ok (.if_icmp .ge 29, 3) := by decide +kernel
theorem dX8_slotOf_13 : decode cX8_slotOf 13 = .ok (.aload_n 0, 1) := by decide +kernel
theorem dX8_slotOf_14 : decode cX8_slotOf 14 = .ok (.getfield 19, 3) := by decide +kernel
theorem dX8_slotOf_17 : decode cX8_slotOf 17 = .ok (.iload_n 2, 1) := by decide +kernel
theorem dX8_slotOf_18 : decode cX8_slotOf 18 = .ok (.invokevirtual 126, 3) := by decide +kernel
theorem dX8_slotOf_21 : decode cX8_slotOf 21 = .ok (.checkcast 201, 3) := by decide +kernel
theorem dX8_slotOf_24 : decode cX8_slotOf 24 = .ok (.getfield 319, 3) := by decide +kernel
theorem dX8_slotOf_27 : decode cX8_slotOf 27 = .ok (.iload_n 1, 1) := by decide +kernel
theorem dX8_slotOf_28 : decode cX8_slotOf 28 = .ok (.if_icmp .ne 5, 3) := by decide +kernel
theorem dX8_slotOf_31 : decode cX8_slotOf 31 = .ok (.iload_n 2, 1) := by decide +kernel
theorem dX8_slotOf_32 : decode cX8_slotOf 32 = .ok (.ireturn, 1) := by decide +kernel
theorem dX8_slotOf_33 : decode cX8_slotOf 33 = .ok (.iinc 2 1, 3) := by decide +kernel
theorem dX8_slotOf_36 : decode cX8_slotOf 36 = .ok (.goto (-34), 3) := by decide +kernel
theorem dX8_slotOf_39 : decode cX8_slotOf 39 = .ok (.iconst (-1), 1) := by decide +kernel
theorem dX8_slotOf_40 : decode cX8_slotOf 40 = .ok (.ireturn, 1) := by decide +kernel
theorem dX8_viewNumbered_0 : decode cX8_viewNumbered 0 = .ok (.aload_n 0, 1) := by decide +kernel
theorem dX8_viewNumbered_1 : decode cX8_viewNumbered 1 = .ok (.iload_n 1, 1) := by decide +kernel
theorem dX8_viewNumbered_2 : decode cX8_viewNumbered 2 = .ok (.invokevirtual 209, 3) := by decide +kernel
theorem dX8_viewNumbered_5 : decode cX8_viewNumbered 5 = .ok (.istore_n 2, 1) := by decide +kernel
theorem dX8_viewNumbered_6 : decode cX8_viewNumbered 6 = .ok (.iload_n 2, 1) := by decide +kernel
theorem dX8_viewNumbered_7 : decode cX8_viewNumbered 7 = .ok (.ifCond .ge 13, 3) := by decide +kernel
theorem dX8_viewNumbered_10 : decode cX8_viewNumbered 10 = .ok (.new 166, 3) := by decide +kernel
theorem dX8_viewNumbered_13 : decode cX8_viewNumbered 13 = .ok (.dup, 1) := by decide +kernel
theorem dX8_viewNumbered_14 : decode cX8_viewNumbered 14 = .ok (.ldc 212, 2) := by decide +kernel
theorem dX8_viewNumbered_16 : decode cX8_viewNumbered 16 = .ok (.invokespecial 170, 3) := by decide +kernel
theorem dX8_viewNumbered_19 : decode cX8_viewNumbered 19 = .ok (.athrow, 1) := by decide +kernel
theorem dX8_viewNumbered_20 : decode cX8_viewNumbered 20 = .ok (.aload_n 0, 1) := by decide +kernel
theorem dX8_viewNumbered_21 : decode cX8_viewNumbered 21 = .ok (.getfield 19, 3) := by decide +kernel
theorem dX8_viewNumbered_24 : decode cX8_viewNumbered 24 = .ok (.iload_n 2, 1) := by decide +kernel
theorem dX8_viewNumbered_25 : decode cX8_viewNumbered 25 = .ok (.invokevirtual 126, 3) := by decide +kernel
theorem dX8_viewNumbered_28 : decode cX8_viewNumbered 28 = .ok (.checkcast 201, 3) := by decide +kernel
theorem dX8_viewNumbered_31 : decode cX8_viewNumbered 31 = .ok (.areturn, 1) := by decide +kernel
theorem dX8_find_0 : decode cX8_find 0 = .ok (.aload_n 0, 1) := by decide +kernel
theorem dX8_find_1 : decode cX8_find 1 = .ok (.iload_n 1, 1) := by decide +kernel
theorem dX8_find_2 : decode cX8_find 2 = .ok (.invokevirtual 217, 3) := by decide +kernel
theorem dX8_find_5 : decode cX8_find 5 = .ok (.astore_n 3, 1) := by decide +kernel
theorem dX8_find_6 : decode cX8_find 6 = .ok (.aload_n 0, 1) := by decide +kernel
theorem dX8_find_7 : decode cX8_find 7 = .ok (.iload_n 2, 1) := by decide +kernel
theorem dX8_find_8 : decode cX8_find 8 = .ok (.invokevirtual 243, 3) := by decide +kernel
theorem dX8_find_11 : decode cX8_find 11 = .ok (.aload_n 0, 1) := by decide +kernel
theorem dX8_find_12 : decode cX8_find 12 = .ok (.getfield 47, 3) := by decide +kernel
theorem dX8_find_15 : decode cX8_find 15 = .ok (.aload_n 0, 1) := by decide +kernel
theorem dX8_find_16 : decode cX8_find 16 = .ok (.getfield 16, 3) := by decide +kernel
theorem dX8_find_19 : decode cX8_find 19 = .ok (.aload_n 0, 1) := by decide +kernel
theorem dX8_find_20 : decode cX8_find 20 = .ok (.getfield 22, 3) := by decide +kernel
theorem dX8_find_23 : decode cX8_find 23 = .ok (.aload_n 3, 1) := by decide +kernel
theorem dX8_find_24 : decode cX8_find 24 = .ok (.iload_n 2, 1) := by decide +kernel
theorem dX8_find_25 : decode cX8_find 25 = .ok (.aload_n 0, 1) := by decide +kernel
theorem dX8_find_26 : decode cX8_find 26 = .ok (.getfield 297, 3) := by decide +kernel
theorem dX8_find_29 : decode cX8_find 29 = .ok (.invokevirtual 322, 3) := by decide +kernel
theorem dX8_find_32 : decode cX8_find 32 = .ok (.aload_n 3, 1) := by decide +kernel
theorem dX8_find_33 : decode cX8_find 33 = .ok (.areturn, 1) := by decide +kernel
theorem dX8_checkHit_0 : decode cX8_checkHit 0 = .ok (.iload_n 1, 1) := by decide +kernel
theorem dX8_checkHit_1 : decode cX8_checkHit 1 = .ok (.ifCond .lt 14, 3) := by decide +kernel
theorem dX8_checkHit_4 : decode cX8_checkHit 4 = .ok (.iload_n 1, 1) := by decide +kernel
theorem dX8_checkHit_5 : decode cX8_checkHit 5 = .ok (.aload_n 0, 1) := by decide +kernel
theorem dX8_checkHit_6 : decode cX8_checkHit 6 = .ok (.getfield 47, 3) := by decide +kernel
theorem dX8_checkHit_9 : decode cX8_checkHit 9 = .ok (.getfield 255, 3) := by decide +kernel
theorem dX8_checkHit_12 : decode cX8_checkHit 12 = .ok (.if_icmp .lt 14, 3) := by decide +kernel
theorem dX8_checkHit_15 : decode cX8_checkHit 15 = .ok (.new 273, 3) := by decide +kernel
theorem dX8_checkHit_18 : decode cX8_checkHit 18 = .ok (.dup, 1) := by decide +kernel
theorem dX8_checkHit_19 : decode cX8_checkHit 19 = .ok (.ldc_w 326, 3) := by decide +kernel
theorem dX8_checkHit_22 : decode cX8_checkHit 22 = .ok (.invokespecial 277, 3) := by decide +kernel
theorem dX8_checkHit_25 : decode cX8_checkHit 25 = .ok (.athrow, 1) := by decide +kernel
theorem dX8_checkHit_26 : decode cX8_checkHit 26 = .ok (.return_, 1) := by decide +kernel
theorem dX8_tagOf_0 : decode cX8_tagOf 0 = .ok (.iload_n 1, 1) := by decide +kernel
theorem dX8_tagOf_1 : decode cX8_tagOf 1 = .ok (.ifCond .lt 14, 3) := by decide +kernel
theorem dX8_tagOf_4 : decode cX8_tagOf 4 = .ok (.iload_n 1, 1) := by decide +kernel
theorem dX8_tagOf_5 : decode cX8_tagOf 5 = .ok (.aload_n 0, 1) := by decide +kernel
theorem dX8_tagOf_6 : decode cX8_tagOf 6 = .ok (.getfield 16, 3) := by decide +kernel
theorem dX8_tagOf_9 : decode cX8_tagOf 9 = .ok (.invokevirtual 64, 3) := by decide +kernel
theorem dX8_tagOf_12 : decode cX8_tagOf 12 = .ok (.if_icmp .lt 7, 3) := by decide +kernel
theorem dX8_tagOf_15 : decode cX8_tagOf 15 = .ok (.iconst (-1), 1) := by decide +kernel
theorem dX8_tagOf_16 : decode cX8_tagOf 16 = .ok (.goto 17, 3) := by decide +kernel
theorem dX8_tagOf_19 : decode cX8_tagOf 19 = .ok (.aload_n 0, 1) := by decide +kernel
theorem dX8_tagOf_20 : decode cX8_tagOf 20 = .ok (.getfield 16, 3) := by decide +kernel
theorem dX8_tagOf_23 : decode cX8_tagOf 23 = .ok (.iload_n 1, 1) := by decide +kernel
theorem dX8_tagOf_24 : decode cX8_tagOf 24 = .ok (.invokevirtual 126, 3) := by decide +kernel
theorem dX8_tagOf_27 : decode cX8_tagOf 27 = .ok (.checkcast 97, 3) := by decide +kernel
theorem dX8_tagOf_30 : decode cX8_tagOf 30 = .ok (.getfield 328, 3) := by decide +kernel
theorem dX8_tagOf_33 : decode cX8_tagOf 33 = .ok (.ireturn, 1) := by decide +kernel
theorem dX8_bestPartOf_0 : decode cX8_bestPartOf 0 = .ok (.iconst (-1), 1) := by decide +kernel
theorem dX8_bestPartOf_1 : decode cX8_bestPartOf 1 = .ok (.istore_n 2, 1) := by decide +kernel
theorem dX8_bestPartOf_2 : decode cX8_bestPartOf 2 = .ok (.iconst 0, 1) := by decide +kernel
theorem dX8_bestPartOf_3 : decode cX8_bestPartOf 3 = .ok (.istore_n 3, 1) := by decide +kernel
theorem dX8_bestPartOf_4 : decode cX8_bestPartOf 4 = .ok (.iload_n 3, 1) := by decide +kernel
theorem dX8_bestPartOf_5 : decode cX8_bestPartOf 5 = .ok (.aload_n 0, 1) := by decide +kernel
theorem dX8_bestPartOf_6 : decode cX8_bestPartOf 6 = .ok (.getfield 16, 3) := by decide +kernel
theorem dX8_bestPartOf_9 : decode cX8_bestPartOf 9 = .ok (.invokevirtual 64, 3) := by decide +kernel
theorem dX8_bestPartOf_12 : decode cX8_bestPartOf 12 = .ok (.if_icmp .ge 51, 3) := by decide +kernel
theorem dX8_bestPartOf_15 : decode cX8_bestPartOf 15 = .ok (.aload_n 0, 1) := by decide +kernel
theorem dX8_bestPartOf_16 : decode cX8_bestPartOf 16 = .ok (.getfield 16, 3) := by decide +kernel
theorem dX8_bestPartOf_19 : decode cX8_bestPartOf 19 = .ok (.iload_n 3, 1) := by decide +kernel
theorem dX8_bestPartOf_20 : decode cX8_bestPartOf 20 = .ok (.invokevirtual 126, 3) := by decide +kernel
theorem dX8_bestPartOf_23 : decode cX8_bestPartOf 23 = .ok (.checkcast 97, 3) := by decide +kernel
theorem dX8_bestPartOf_26 : decode cX8_bestPartOf 26 = .ok (.getfield 331, 3) := by decide +kernel
theorem dX8_bestPartOf_29 : decode cX8_bestPartOf 29 = .ok (.iload_n 1, 1) := by decide +kernel
theorem dX8_bestPartOf_30 : decode cX8_bestPartOf 30 = .ok (.if_icmp .eq 6, 3) := by decide +kernel
theorem dX8_bestPartOf_33 : decode cX8_bestPartOf 33 = .ok (.goto 24, 3) := by decide +kernel
theorem dX8_bestPartOf_36 : decode cX8_bestPartOf 36 = .ok (.aload_n 0, 1) := by decide +kernel
theorem dX8_bestPartOf_37 : decode cX8_bestPartOf 37 = .ok (.getfield 47, 3) := by decide +kernel
theorem dX8_bestPartOf_40 : decode cX8_bestPartOf 40 = .ok (.iload_n 3, 1) := by decide +kernel
theorem dX8_bestPartOf_41 : decode cX8_bestPartOf 41 = .ok (.invokevirtual 264, 3) := by decide +kernel
theorem dX8_bestPartOf_44 : decode cX8_bestPartOf 44 = .ok (.iload_n 2, 1) := by decide +kernel
theorem dX8_bestPartOf_45 : decode cX8_bestPartOf 45 = .ok (.if_icmp .le 12, 3) := by decide +kernel
theorem dX8_bestPartOf_48 : decode cX8_bestPartOf 48 = .ok (.aload_n 0, 1) := by decide +kernel
theorem dX8_bestPartOf_49 : decode cX8_bestPartOf 49 = .ok (.getfield 47, 3) := by decide +kernel
theorem dX8_bestPartOf_52 : decode cX8_bestPartOf 52 = .ok (.iload_n 3, 1) := by decide +kernel
theorem dX8_bestPartOf_53 : decode cX8_bestPartOf 53 = .ok (.invokevirtual 264, 3) := by decide +kernel
theorem dX8_bestPartOf_56 : decode cX8_bestPartOf 56 = .ok (.istore_n 2, 1) := by decide +kernel
theorem dX8_bestPartOf_57 : decode cX8_bestPartOf 57 = .ok (.iinc 3 1, 3) := by decide +kernel
theorem dX8_bestPartOf_60 : decode cX8_bestPartOf 60 = .ok (.goto (-56), 3) := by decide +kernel
theorem dX8_bestPartOf_63 : decode cX8_bestPartOf 63 = .ok (.iload_n 2, 1) := by decide +kernel
theorem dX8_bestPartOf_64 : decode cX8_bestPartOf 64 = .ok (.ireturn, 1) := by decide +kernel
theorem dX9_init_0 : decode cX9_init 0 = .ok (.aload_n 0, 1) := by decide +kernel
theorem dX9_init_1 : decode cX9_init 1 = .ok (.invokespecial 1, 3) := by decide +kernel
theorem dX9_init_4 : decode cX9_init 4 = .ok (.aload_n 0, 1) := by decide +kernel
theorem dX9_init_5 : decode cX9_init 5 = .ok (.bipush 6, 2) := by decide +kernel
theorem dX9_init_7 : decode cX9_init 7 = .ok (.newarray .char, 2) := by decide +kernel
theorem dX9_init_9 : decode cX9_init 9 = .ok (.putfield 9, 3) := by decide +kernel
theorem dX9_init_12 : decode cX9_init 12 = .ok (.aload_n 0, 1) := by decide +kernel
theorem dX9_init_13 : decode cX9_init 13 = .ok (.bipush 6, 2) := by decide +kernel
theorem dX9_init_15 : decode cX9_init 15 = .ok (.newarray .int, 2) := by decide +kernel
theorem dX9_init_17 : decode cX9_init 17 = .ok (.putfield 13, 3) := by decide +kernel
theorem dX9_init_20 : decode cX9_init 20 = .ok (.aload_n 0, 1) := by decide +kernel
theorem dX9_init_21 : decode cX9_init 21 = .ok (.bipush 6, 2) := by decide +kernel
theorem dX9_init_23 : decode cX9_init 23 = .ok (.newarray .int, 2) := by decide +kernel
theorem dX9_init_25 : decode cX9_init 25 = .ok (.putfield 17, 3) := by decide +kernel
theorem dX9_init_28 : decode cX9_init 28 = .ok (.aload_n 0, 1) := by decide +kernel
theorem dX9_init_29 : decode cX9_init 29 = .ok (.bipush 12, 2) := by decide +kernel
theorem dX9_init_31 : decode cX9_init 31 = .ok (.newarray .int, 2) := by decide +kernel
theorem dX9_init_33 : decode cX9_init 33 = .ok (.putfield 20, 3) := by decide +kernel
theorem dX9_init_36 : decode cX9_init 36 = .ok (.aload_n 0, 1) := by decide +kernel
theorem dX9_init_37 : decode cX9_init 37 = .ok (.bipush 30, 2) := by decide +kernel
theorem dX9_init_39 : decode cX9_init 39 = .ok (.newarray .char, 2) := by decide +kernel
theorem dX9_init_41 : decode cX9_init 41 = .ok (.putfield 23, 3) := by decide +kernel
theorem dX9_init_44 : decode cX9_init 44 = .ok (.aload_n 0, 1) := by decide +kernel
theorem dX9_init_45 : decode cX9_init 45 = .ok (.bipush 30, 2) := by decide +kernel
theorem dX9_init_47 : decode cX9_init 47 = .ok (.newarray .int, 2) := by decide +kernel
theorem dX9_init_49 : decode cX9_init 49 = .ok (.putfield 26, 3) := by decide +kernel
theorem dX9_init_52 : decode cX9_init 52 = .ok (.aload_n 0, 1) := by decide +kernel
theorem dX9_init_53 : decode cX9_init 53 = .ok (.bipush 30, 2) := by decide +kernel
theorem dX9_init_55 : decode cX9_init 55 = .ok (.newarray .int, 2) := by decide +kernel
theorem dX9_init_57 : decode cX9_init 57 = .ok (.putfield 29, 3) := by decide +kernel
theorem dX9_init_60 : decode cX9_init 60 = .ok (.aload_n 0, 1) := by decide +kernel
theorem dX9_init_61 : decode cX9_init 61 = .ok (.bipush 30, 2) := by decide +kernel
theorem dX9_init_63 : decode cX9_init 63 = .ok (.newarray .int, 2) := by decide +kernel
theorem dX9_init_65 : decode cX9_init 65 = .ok (.putfield 32, 3) := by decide +kernel
theorem dX9_init_68 : decode cX9_init 68 = .ok (.aload_n 0, 1) := by decide +kernel
theorem dX9_init_69 : decode cX9_init 69 = .ok (.bipush 30, 2) := by decide +kernel
theorem dX9_init_71 : decode cX9_init 71 = .ok (.newarray .int, 2) := by decide +kernel
theorem dX9_init_73 : decode cX9_init 73 = .ok (.putfield 35, 3) := by decide +kernel
theorem dX9_init_76 : decode cX9_init 76 = .ok (.aload_n 0, 1) := by decide +kernel
theorem dX9_init_77 : decode cX9_init 77 = .ok (.sipush 2880, 3) := by decide +kernel
theorem dX9_init_80 : decode cX9_init 80 = .ok (.newarray .int, 2) := by decide +kernel
theorem dX9_init_82 : decode cX9_init 82 = .ok (.putfield 38, 3) := by decide +kernel
theorem dX9_init_85 : decode cX9_init 85 = .ok (.aload_n 0, 1) := by decide +kernel
theorem dX9_init_86 : decode cX9_init 86 = .ok (.sipush 2880, 3) := by decide +kernel
theorem dX9_init_89 : decode cX9_init 89 = .ok (.newarray .int, 2) := by decide +kernel
theorem dX9_init_91 : decode cX9_init 91 = .ok (.putfield 41, 3) := by decide +kernel
theorem dX9_init_94 : decode cX9_init 94 = .ok (.aload_n 0, 1) := by decide +kernel
theorem dX9_init_95 : decode cX9_init 95 = .ok (.sipush 2880, 3) := by decide +kernel
theorem dX9_init_98 : decode cX9_init 98 = .ok (.newarray .int, 2) := by decide +kernel
theorem dX9_init_100 : decode cX9_init 100 = .ok (.putfield 44, 3) := by decide +kernel
theorem dX9_init_103 : decode cX9_init 103 = .ok (.aload_n 0, 1) := by decide +kernel
theorem dX9_init_104 : decode cX9_init 104 = .ok (.bipush 30, 2) := by decide +kernel
theorem dX9_init_106 : decode cX9_init 106 = .ok (.newarray .int, 2) := by decide +kernel
theorem dX9_init_108 : decode cX9_init 108 = .ok (.putfield 47, 3) := by decide +kernel
theorem dX9_init_111 : decode cX9_init 111 = .ok (.aload_n 0, 1) := by decide +kernel
theorem dX9_init_112 : decode cX9_init 112 = .ok (.bipush 30, 2) := by decide +kernel
theorem dX9_init_114 : decode cX9_init 114 = .ok (.newarray .char, 2) := by decide +kernel
theorem dX9_init_116 : decode cX9_init 116 = .ok (.putfield 50, 3) := by decide +kernel
theorem dX9_init_119 : decode cX9_init 119 = .ok (.aload_n 0, 1) := by decide +kernel
theorem dX9_init_120 : decode cX9_init 120 = .ok (.bipush 30, 2) := by decide +kernel
theorem dX9_init_122 : decode cX9_init 122 = .ok (.newarray .int, 2) := by decide +kernel
theorem dX9_init_124 : decode cX9_init 124 = .ok (.putfield 53, 3) := by decide +kernel
theorem dX9_init_127 : decode cX9_init 127 = .ok (.aload_n 0, 1) := by decide +kernel
theorem dX9_init_128 : decode cX9_init 128 = .ok (.bipush 30, 2) := by decide +kernel
theorem dX9_init_130 : decode cX9_init 130 = .ok (.newarray .boolean, 2) := by decide +kernel
theorem dX9_init_132 : decode cX9_init 132 = .ok (.putfield 56, 3) := by decide +kernel
theorem dX9_init_135 : decode cX9_init 135 = .ok (.aload_n 0, 1) := by decide +kernel
theorem dX9_init_136 : decode cX9_init 136 = .ok (.iconst 4, 1) := by decide +kernel
theorem dX9_init_137 : decode cX9_init 137 = .ok (.newarray .int, 2) := by decide +kernel
theorem dX9_init_139 : decode cX9_init 139 = .ok (.putfield 60, 3) := by decide +kernel
theorem dX9_init_142 : decode cX9_init 142 = .ok (.aload_n 0, 1) := by decide +kernel
theorem dX9_init_143 : decode cX9_init 143 = .ok (.bipush 120, 2) := by decide +kernel
theorem dX9_init_145 : decode cX9_init 145 = .ok (.newarray .boolean, 2) := by decide +kernel
theorem dX9_init_147 : decode cX9_init 147 = .ok (.putfield 63, 3) := by decide +kernel
theorem dX9_init_150 : decode cX9_init 150 = .ok (.aload_n 0, 1) := by decide +kernel
theorem dX9_init_151 : decode cX9_init 151 = .ok (.bipush 40, 2) := by decide +kernel
theorem dX9_init_153 : decode cX9_init 153 = .ok (.newarray .char, 2) := by decide +kernel
theorem dX9_init_155 : decode cX9_init 155 = .ok (.putfield 66, 3) := by decide +kernel
theorem dX9_init_158 : decode cX9_init 158 = .ok (.aload_n 0, 1) := by decide +kernel
theorem dX9_init_159 : decode cX9_init 159 = .ok (.bipush 40, 2) := by decide +kernel
theorem dX9_init_161 : decode cX9_init 161 = .ok (.newarray .int, 2) := by decide +kernel
theorem dX9_init_163 : decode cX9_init 163 = .ok (.putfield 69, 3) := by decide +kernel
theorem dX9_init_166 : decode cX9_init 166 = .ok (.aload_n 0, 1) := by decide +kernel
theorem dX9_init_167 : decode cX9_init 167 = .ok (.bipush 40, 2) := by decide +kernel
theorem dX9_init_169 : decode cX9_init 169 = .ok (.newarray .int, 2) := by decide +kernel
theorem dX9_init_171 : decode cX9_init 171 = .ok (.putfield 72, 3) := by decide +kernel
theorem dX9_init_174 : decode cX9_init 174 = .ok (.aload_n 0, 1) := by decide +kernel
theorem dX9_init_175 : decode cX9_init 175 = .ok (.bipush 40, 2) := by decide +kernel
theorem dX9_init_177 : decode cX9_init 177 = .ok (.newarray .int, 2) := by decide +kernel
theorem dX9_init_179 : decode cX9_init 179 = .ok (.putfield 75, 3) := by decide +kernel
theorem dX9_init_182 : decode cX9_init 182 = .ok (.aload_n 0, 1) := by decide +kernel
theorem dX9_init_183 : decode cX9_init 183 = .ok (.bipush 40, 2) := by decide +kernel
theorem dX9_init_185 : decode cX9_init 185 = .ok (.newarray .int, 2) := by decide +kernel
theorem dX9_init_187 : decode cX9_init 187 = .ok (.putfield 78, 3) := by decide +kernel
theorem dX9_init_190 : decode cX9_init 190 = .ok (.aload_n 0, 1) := by decide +kernel
theorem dX9_init_191 : decode cX9_init 191 = .ok (.bipush 40, 2) := by decide +kernel
theorem dX9_init_193 : decode cX9_init 193 = .ok (.newarray .int, 2) := by decide +kernel
theorem dX9_init_195 : decode cX9_init 195 = .ok (.putfield 81, 3) := by decide +kernel
theorem dX9_init_198 : decode cX9_init 198 = .ok (.aload_n 0, 1) := by decide +kernel
theorem dX9_init_199 : decode cX9_init 199 = .ok (.sipush 192, 3) := by decide +kernel
theorem dX9_init_202 : decode cX9_init 202 = .ok (.newarray .int, 2) := by decide +kernel
theorem dX9_init_204 : decode cX9_init 204 = .ok (.putfield 84, 3) := by decide +kernel
theorem dX9_init_207 : decode cX9_init 207 = .ok (.aload_n 0, 1) := by decide +kernel
theorem dX9_init_208 : decode cX9_init 208 = .ok (.sipush 192, 3) := by decide +kernel
theorem dX9_init_211 : decode cX9_init 211 = .ok (.newarray .int, 2) := by decide +kernel
theorem dX9_init_213 : decode cX9_init 213 = .ok (.putfield 87, 3) := by decide +kernel
theorem dX9_init_216 : decode cX9_init 216 = .ok (.aload_n 0, 1) := by decide +kernel
theorem dX9_init_217 : decode cX9_init 217 = .ok (.sipush 192, 3) := by decide +kernel
theorem dX9_init_220 : decode cX9_init 220 = .ok (.newarray .int, 2) := by decide +kernel
theorem dX9_init_222 : decode cX9_init 222 = .ok (.putfield 90, 3) := by decide +kernel
theorem dX9_init_225 : decode cX9_init 225 = .ok (.aload_n 0, 1) := by decide +kernel
theorem dX9_init_226 : decode cX9_init 226 = .ok (.sipush 192, 3) := by decide +kernel
theorem dX9_init_229 : decode cX9_init 229 = .ok (.newarray .int, 2) := by decide +kernel
theorem dX9_init_231 : decode cX9_init 231 = .ok (.putfield 93, 3) := by decide +kernel
theorem dX9_init_234 : decode cX9_init 234 = .ok (.aload_n 0, 1) := by decide +kernel
theorem dX9_init_235 : decode cX9_init 235 = .ok (.bipush 40, 2) := by decide +kernel
theorem dX9_init_237 : decode cX9_init 237 = .ok (.newarray .int, 2) := by decide +kernel
theorem dX9_init_239 : decode cX9_init 239 = .ok (.putfield 96, 3) := by decide +kernel
theorem dX9_init_242 : decode cX9_init 242 = .ok (.aload_n 0, 1) := by decide +kernel
theorem dX9_init_243 : decode cX9_init 243 = .ok (.bipush 30, 2) := by decide +kernel
theorem dX9_init_245 : decode cX9_init 245 = .ok (.newarray .int, 2) := by decide +kernel
theorem dX9_init_247 : decode cX9_init 247 = .ok (.putfield 99, 3) := by decide +kernel
theorem dX9_init_250 : decode cX9_init 250 = .ok (.aload_n 0, 1) := by decide +kernel
theorem dX9_init_251 : decode cX9_init 251 = .ok (.bipush 30, 2) := by decide +kernel
theorem dX9_init_253 : decode cX9_init 253 = .ok (.newarray .long, 2) := by decide +kernel
theorem dX9_init_255 : decode cX9_init 255 = .ok (.putfield 102, 3) := by decide +kernel
theorem dX9_init_258 : decode cX9_init 258 = .ok (.aload_n 0, 1) := by decide +kernel
theorem dX9_init_259 : decode cX9_init 259 = .ok (.bipush 12, 2) := by decide +kernel
theorem dX9_init_261 : decode cX9_init 261 = .ok (.newarray .boolean, 2) := by decide +kernel
theorem dX9_init_263 : decode cX9_init 263 = .ok (.putfield 106, 3) := by decide +kernel
theorem dX9_init_266 : decode cX9_init 266 = .ok (.return_, 1) := by decide +kernel
theorem dX9_thrown_0 : decode cX9_thrown 0 = .ok (.aload_n 0, 1) := by decide +kernel
theorem dX9_thrown_1 : decode cX9_thrown 1 = .ok (.getfield 109, 3) := by decide +kernel
theorem dX9_thrown_4 : decode cX9_thrown 4 = .ok (.ireturn, 1) := by decide +kernel
theorem dX9_in_0 : decode cX9_in 0 = .ok (.iload_n 0, 1) := by decide +kernel
theorem dX9_in_1 : decode cX9_in 1 = .ok (.iload_n 1, 1) := by decide +kernel
theorem dX9_in_2 : decode cX9_in 2 = .ok (.if_icmp .lt 12, 3) := by decide +kernel
theorem dX9_in_5 : decode cX9_in 5 = .ok (.iload_n 0, 1) := by decide +kernel
theorem dX9_in_6 : decode cX9_in 6 = .ok (.iload_n 2, 1) := by decide +kernel
theorem dX9_in_7 : decode cX9_in 7 = .ok (.if_icmp .gt 7, 3) := by decide +kernel
theorem dX9_in_10 : decode cX9_in 10 = .ok (.iconst 1, 1) := by decide +kernel
theorem dX9_in_11 : decode cX9_in 11 = .ok (.goto 4, 3) := by decide +kernel
theorem dX9_in_14 : decode cX9_in 14 = .ok (.iconst 0, 1) := by decide +kernel
theorem dX9_in_15 : decode cX9_in 15 = .ok (.ireturn, 1) := by decide +kernel
theorem dX9_goesOn_0 : decode cX9_goesOn 0 = .ok (.aload_n 0, 1) := by decide +kernel
theorem dX9_goesOn_1 : decode cX9_goesOn 1 = .ok (.iload_n 1, 1) := by decide +kernel
theorem dX9_goesOn_2 : decode cX9_goesOn 2 = .ok (.putfield 109, 3) := by decide +kernel
theorem dX9_goesOn_5 : decode cX9_goesOn 5 = .ok (.iload_n 1, 1) := by decide +kernel
theorem dX9_goesOn_6 : decode cX9_goesOn 6 = .ok (.ifCond .ne 7, 3) := by decide +kernel
theorem dX9_goesOn_9 : decode cX9_goesOn 9 = .ok (.iconst 1, 1) := by decide +kernel
theorem dX9_goesOn_10 : decode cX9_goesOn 10 = .ok (.goto 4, 3) := by decide +kernel
theorem dX9_goesOn_13 : decode cX9_goesOn 13 = .ok (.iconst 0, 1) := by decide +kernel
theorem dX9_goesOn_14 : decode cX9_goesOn 14 = .ok (.ireturn, 1) := by decide +kernel
theorem dX9_isWord_0 : decode cX9_isWord 0 = .ok (.iload_n 0, 1) := by decide +kernel
theorem dX9_isWord_1 : decode cX9_isWord 1 = .ok (.iconst 0, 1) := by decide +kernel
theorem dX9_isWord_2 : decode cX9_isWord 2 = .ok (.bipush 59, 2) := by decide +kernel
theorem dX9_isWord_4 : decode cX9_isWord 4 = .ok (.invokestatic 113, 3) := by decide +kernel
theorem dX9_isWord_7 : decode cX9_isWord 7 = .ok (.ireturn, 1) := by decide +kernel
theorem dX9_isDocument_0 : decode cX9_isDocument 0 = .ok (.iload_n 1, 1) := by decide +kernel
theorem dX9_isDocument_1 : decode cX9_isDocument 1 = .ok (.iconst 0, 1) := by decide +kernel
theorem dX9_isDocument_2 : decode cX9_isDocument 2 = .ok (.aload_n 0, 1) := by decide +kernel
theorem dX9_isDocument_3 : decode cX9_isDocument 3 = .ok (.getfield 117, 3) := by decide +kernel
theorem dX9_isDocument_6 : decode cX9_isDocument 6 = .ok (.iconst 1, 1) := by decide +kernel
theorem dX9_isDocument_7 : decode cX9_isDocument 7 = .ok (.isub, 1) := by decide +kernel
theorem dX9_isDocument_8 : decode cX9_isDocument 8 = .ok (.invokestatic 113, 3) := by decide +kernel
theorem dX9_isDocument_11 : decode cX9_isDocument 11 = .ok (.ireturn, 1) := by decide +kernel
theorem dX9_addStep_0 : decode cX9_addStep 0 = .ok (.iload_n 1, 1) := by decide +kernel
theorem dX9_addStep_1 : decode cX9_addStep 1 = .ok (.bipush 108, 2) := by decide +kernel
theorem dX9_addStep_3 : decode cX9_addStep 3 = .ok (.if_icmp .eq 9, 3) := by decide +kernel
theorem dX9_addStep_6 : decode cX9_addStep 6 = .ok (.iload_n 1, 1) := by decide +kernel
theorem dX9_addStep_7 : decode cX9_addStep 7 = .ok (.bipush 109, 2) := by decide +kernel
theorem dX9_addStep_9 : decode cX9_addStep 9 = .ok (.if_icmp .ne 7, 3) := by decide +kernel
theorem dX9_addStep_12 : decode cX9_addStep 12 = .ok (.iconst 1, 1) := by decide +kernel
theorem dX9_addStep_13 : decode cX9_addStep 13 = .ok (.goto 4, 3) := by decide +kernel
theorem dX9_addStep_16 : decode cX9_addStep 16 = .ok (.iconst 0, 1) := by decide +kernel
theorem dX9_addStep_17 : decode cX9_addStep 17 = .ok (.istore 4, 2) := by decide +kernel
theorem dX9_addStep_19 : decode cX9_addStep 19 = .ok (.iload_n 1, 1) := by decide +kernel
theorem dX9_addStep_20 : decode cX9_addStep 20 = .ok (.bipush 115, 2) := by decide +kernel
theorem dX9_addStep_22 : decode cX9_addStep 22 = .ok (.if_icmp .eq 9, 3) := by decide +kernel
theorem dX9_addStep_25 : decode cX9_addStep 25 = .ok (.iload_n 1, 1) := by decide +kernel
theorem dX9_addStep_26 : decode cX9_addStep 26 = .ok (.bipush 99, 2) := by decide +kernel
theorem dX9_addStep_28 : decode cX9_addStep 28 = .ok (.if_icmp .ne 14, 3) := by decide +kernel
theorem dX9_addStep_31 : decode cX9_addStep 31 = .ok (.iload_n 2, 1) := by decide +kernel
theorem dX9_addStep_32 : decode cX9_addStep 32 = .ok (.invokestatic 120, 3) := by decide +kernel
theorem dX9_addStep_35 : decode cX9_addStep 35 = .ok (.ifCond .eq 7, 3) := by decide +kernel
theorem dX9_addStep_38 : decode cX9_addStep 38 = .ok (.iconst 1, 1) := by decide +kernel
theorem dX9_addStep_39 : decode cX9_addStep 39 = .ok (.goto 4, 3) := by decide +kernel
theorem dX9_addStep_42 : decode cX9_addStep 42 = .ok (.iconst 0, 1) := by decide +kernel
theorem dX9_addStep_43 : decode cX9_addStep 43 = .ok (.istore 5, 2) := by decide +kernel
theorem dX9_addStep_45 : decode cX9_addStep 45 = .ok (.iload_n 1, 1) := by decide +kernel
theorem dX9_addStep_46 : decode cX9_addStep 46 = .ok (.bipush 121, 2) := by decide +kernel
theorem dX9_addStep_48 : decode cX9_addStep 48 = .ok (.if_icmp .ne 21, 3) := by decide +kernel
theorem dX9_addStep_51 : decode cX9_addStep 51 = .ok (.iload_n 2, 1) := by decide +kernel
theorem dX9_addStep_52 : decode cX9_addStep 52 = .ok (.invokestatic 120, 3) := by decide +kernel
theorem dX9_addStep_55 : decode cX9_addStep 55 = .ok (.ifCond .eq 14, 3) := by decide +kernel
theorem dX9_addStep_58 : decode cX9_addStep 58 = .ok (.iload_n 3, 1) := by decide +kernel
theorem dX9_addStep_59 : decode cX9_addStep 59 = .ok (.invokestatic 120, 3) := by decide +kernel
theorem dX9_addStep_62 : decode cX9_addStep 62 = .ok (.ifCond .eq 7, 3) := by decide +kernel
theorem dX9_addStep_65 : decode cX9_addStep 65 = .ok (.iconst 1, 1) := by decide +kernel
theorem dX9_addStep_66 : decode cX9_addStep 66 = .ok (.goto 4, 3) := by decide +kernel
theorem dX9_addStep_69 : decode cX9_addStep 69 = .ok (.iconst 0, 1) := by decide +kernel
theorem dX9_addStep_70 : decode cX9_addStep 70 = .ok (.istore 6, 2) := by decide +kernel
theorem dX9_addStep_72 : decode cX9_addStep 72 = .ok (.aload_n 0, 1) := by decide +kernel
theorem dX9_addStep_73 : decode cX9_addStep 73 = .ok (.iload 4, 2) := by decide +kernel
theorem dX9_addStep_75 : decode cX9_addStep 75 = .ok (.ifCond .ne 17, 3) := by decide +kernel
theorem dX9_addStep_78 : decode cX9_addStep 78 = .ok (.iload 5, 2) := by decide +kernel
theorem dX9_addStep_80 : decode cX9_addStep 80 = .ok (.ifCond .ne 12, 3) := by decide +kernel
theorem dX9_addStep_83 : decode cX9_addStep 83 = .ok (.iload 6, 2) := by decide +kernel
theorem dX9_addStep_85 : decode cX9_addStep 85 = .ok (.ifCond .ne 7, 3) := by decide +kernel
theorem dX9_addStep_88 : decode cX9_addStep 88 = .ok (.iconst 1, 1) := by decide +kernel
theorem dX9_addStep_89 : decode cX9_addStep 89 = .ok (.goto 17, 3) := by decide +kernel
theorem dX9_addStep_92 : decode cX9_addStep 92 = .ok (.aload_n 0, 1) := by decide +kernel
theorem dX9_addStep_93 : decode cX9_addStep 93 = .ok (.getfield 124, 3) := by decide +kernel
theorem dX9_addStep_96 : decode cX9_addStep 96 = .ok (.bipush 6, 2) := by decide +kernel
theorem dX9_addStep_98 : decode cX9_addStep 98 = .ok (.if_icmp .ne 7, 3) := by decide +kernel
theorem dX9_addStep_101 : decode cX9_addStep 101 = .ok (.iconst 2, 1) := by decide +kernel
theorem dX9_addStep_102 : decode cX9_addStep 102 = .ok (.goto 4, 3) := by decide +kernel
theorem dX9_addStep_105 : decode cX9_addStep 105 = .ok (.iconst 0, 1) := by decide +kernel
theorem dX9_addStep_106 : decode cX9_addStep 106 = .ok (.invokevirtual 127, 3) := by decide +kernel
theorem dX9_addStep_109 : decode cX9_addStep 109 = .ok (.ifCond .ne 5, 3) := by decide +kernel
theorem dX9_addStep_112 : decode cX9_addStep 112 = .ok (.iconst 0, 1) := by decide +kernel
theorem dX9_addStep_113 : decode cX9_addStep 113 = .ok (.ireturn, 1) := by decide +kernel
theorem dX9_addStep_114 : decode cX9_addStep 114 = .ok (.aload_n 0, 1) := by decide +kernel
theorem dX9_addStep_115 : decode cX9_addStep 115 = .ok (.getfield 9, 3) := by decide +kernel
theorem dX9_addStep_118 : decode cX9_addStep 118 = .ok (.aload_n 0, 1) := by decide +kernel
theorem dX9_addStep_119 : decode cX9_addStep 119 = .ok (.getfield 124, 3) := by decide +kernel
theorem dX9_addStep_122 : decode cX9_addStep 122 = .ok (.iload_n 1, 1) := by decide +kernel
theorem dX9_addStep_123 : decode cX9_addStep 123 = .ok (.castore, 1) := by decide +kernel
theorem dX9_addStep_124 : decode cX9_addStep 124 = .ok (.aload_n 0, 1) := by decide +kernel
theorem dX9_addStep_125 : decode cX9_addStep 125 = .ok (.getfield 13, 3) := by decide +kernel
theorem dX9_addStep_128 : decode cX9_addStep 128 = .ok (.aload_n 0, 1) := by decide +kernel
theorem dX9_addStep_129 : decode cX9_addStep 129 = .ok (.getfield 124, 3) := by decide +kernel
theorem dX9_addStep_132 : decode cX9_addStep 132 = .ok (.iload_n 2, 1) := by decide +kernel
theorem dX9_addStep_133 : decode cX9_addStep 133 = .ok (.iastore, 1) := by decide +kernel
theorem dX9_addStep_134 : decode cX9_addStep 134 = .ok (.aload_n 0, 1) := by decide +kernel
theorem dX9_addStep_135 : decode cX9_addStep 135 = .ok (.getfield 17, 3) := by decide +kernel
theorem dX9_addStep_138 : decode cX9_addStep 138 = .ok (.aload_n 0, 1) := by decide +kernel
theorem dX9_addStep_139 : decode cX9_addStep 139 = .ok (.getfield 124, 3) := by decide +kernel
theorem dX9_addStep_142 : decode cX9_addStep 142 = .ok (.iload_n 3, 1) := by decide +kernel
theorem dX9_addStep_143 : decode cX9_addStep 143 = .ok (.iastore, 1) := by decide +kernel
theorem dX9_addStep_144 : decode cX9_addStep 144 = .ok (.aload_n 0, 1) := by decide +kernel
theorem dX9_addStep_145 : decode cX9_addStep 145 = .ok (.dup, 1) := by decide +kernel
theorem dX9_addStep_146 : decode cX9_addStep 146 = .ok (.getfield 124, 3) := by decide +kernel
theorem dX9_addStep_149 : decode cX9_addStep 149 = .ok (.iconst 1, 1) := by decide +kernel
theorem dX9_addStep_150 : decode cX9_addStep 150 = .ok (.iadd, 1) := by decide +kernel
theorem dX9_addStep_151 : decode cX9_addStep 151 = .ok (.putfield 124, 3) := by decide +kernel
theorem dX9_addStep_154 : decode cX9_addStep 154 = .ok (.aload_n 0, 1) := by decide +kernel
theorem dX9_addStep_155 : decode cX9_addStep 155 = .ok (.getfield 124, 3) := by decide +kernel
theorem dX9_addStep_158 : decode cX9_addStep 158 = .ok (.ireturn, 1) := by decide +kernel
theorem dX9_dropSteps_0 : decode cX9_dropSteps 0 = .ok (.aload_n 0, 1) := by decide +kernel
theorem dX9_dropSteps_1 : decode cX9_dropSteps 1 = .ok (.iconst 0, 1) := by decide +kernel
theorem dX9_dropSteps_2 : decode cX9_dropSteps 2 = .ok (.putfield 109, 3) := by decide +kernel
theorem dX9_dropSteps_5 : decode cX9_dropSteps 5 = .ok (.aload_n 0, 1) := by decide +kernel
theorem dX9_dropSteps_6 : decode cX9_dropSteps 6 = .ok (.getfield 124, 3) := by decide +kernel
theorem dX9_dropSteps_9 : decode cX9_dropSteps 9 = .ok (.istore_n 1, 1) := by decide +kernel
theorem dX9_dropSteps_10 : decode cX9_dropSteps 10 = .ok (.aload_n 0, 1) := by decide +kernel
theorem dX9_dropSteps_11 : decode cX9_dropSteps 11 = .ok (.iconst 0, 1) := by decide +kernel
theorem dX9_dropSteps_12 : decode cX9_dropSteps 12 = .ok (.putfield 124, 3) := by decide +kernel
theorem dX9_dropSteps_15 : decode cX9_dropSteps 15 = .ok (.iload_n 1, 1) := by decide +kernel
theorem dX9_dropSteps_16 : decode cX9_dropSteps 16 = .ok (.ireturn, 1) := by decide +kernel
theorem dX9_open_0 : decode cX9_open 0 = .ok (.iload_n 2, 1) := by decide +kernel
theorem dX9_open_1 : decode cX9_open 1 = .ok (.iconst (-1), 1) := by decide +kernel
theorem dX9_open_2 : decode cX9_open 2 = .ok (.if_icmp .eq 11, 3) := by decide +kernel
theorem dX9_open_5 : decode cX9_open 5 = .ok (.aload_n 0, 1) := by decide +kernel
theorem dX9_open_6 : decode cX9_open 6 = .ok (.iload_n 2, 1) := by decide +kernel
theorem dX9_open_7 : decode cX9_open 7 = .ok (.invokevirtual 130, 3) := by decide +kernel
theorem dX9_open_10 : decode cX9_open 10 = .ok (.ifCond .eq 7, 3) := by decide +kernel
theorem dX9_open_13 : decode cX9_open 13 = .ok (.iconst 1, 1) := by decide +kernel
theorem dX9_open_14 : decode cX9_open 14 = .ok (.goto 4, 3) := by decide +kernel
theorem dX9_open_17 : decode cX9_open 17 = .ok (.iconst 0, 1) := by decide +kernel
theorem dX9_open_18 : decode cX9_open 18 = .ok (.istore_n 3, 1) := by decide +kernel
theorem dX9_open_19 : decode cX9_open 19 = .ok (.aload_n 0, 1) := by decide +kernel
theorem dX9_open_20 : decode cX9_open 20 = .ok (.iload_n 1, 1) := by decide +kernel
theorem dX9_open_21 : decode cX9_open 21 = .ok (.iconst 0, 1) := by decide +kernel
theorem dX9_open_22 : decode cX9_open 22 = .ok (.iconst 5, 1) := by decide +kernel
theorem dX9_open_23 : decode cX9_open 23 = .ok (.invokestatic 113, 3) := by decide +kernel
theorem dX9_open_26 : decode cX9_open 26 = .ok (.ifCond .ne 7, 3) := by decide +kernel
theorem dX9_open_29 : decode cX9_open 29 = .ok (.iconst 1, 1) := by decide +kernel
theorem dX9_open_30 : decode cX9_open 30 = .ok (.goto 32, 3) := by decide +kernel
theorem dX9_open_33 : decode cX9_open 33 = .ok (.iload_n 3, 1) := by decide +kernel
theorem dX9_open_34 : decode cX9_open 34 = .ok (.ifCond .ne 7, 3) := by decide +kernel
theorem dX9_open_37 : decode cX9_open 37 = .ok (.iconst 2, 1) := by decide +kernel
theorem dX9_open_38 : decode cX9_open 38 = .ok (.goto 24, 3) := by decide +kernel
theorem dX9_open_41 : decode cX9_open 41 = .ok (.aload_n 0, 1) := by decide +kernel
theorem dX9_open_42 : decode cX9_open 42 = .ok (.getfield 133, 3) := by decide +kernel
theorem dX9_open_45 : decode cX9_open 45 = .ok (.ifCond .ne 12, 3) := by decide +kernel
theorem dX9_open_48 : decode cX9_open 48 = .ok (.aload_n 0, 1) := by decide +kernel
theorem dX9_open_49 : decode cX9_open 49 = .ok (.getfield 117, 3) := by decide +kernel
theorem dX9_open_52 : decode cX9_open 52 = .ok (.bipush 30, 2) := by decide +kernel
theorem dX9_open_54 : decode cX9_open 54 = .ok (.if_icmp .ne 7, 3) := by decide +kernel
theorem dX9_open_57 : decode cX9_open 57 = .ok (.iconst 3, 1) := by decide +kernel
theorem dX9_open_58 : decode cX9_open 58 = .ok (.goto 4, 3) := by decide +kernel
theorem dX9_open_61 : decode cX9_open 61 = .ok (.iconst 0, 1) := by decide +kernel
theorem dX9_open_62 : decode cX9_open 62 = .ok (.invokevirtual 127, 3) := by decide +kernel
theorem dX9_open_65 : decode cX9_open 65 = .ok (.ifCond .ne 5, 3) := by decide +kernel
theorem dX9_open_68 : decode cX9_open 68 = .ok (.iconst 0, 1) := by decide +kernel
theorem dX9_open_69 : decode cX9_open 69 = .ok (.ireturn, 1) := by decide +kernel
theorem dX9_open_70 : decode cX9_open 70 = .ok (.aload_n 0, 1) := by decide +kernel
theorem dX9_open_71 : decode cX9_open 71 = .ok (.iconst 1, 1) := by decide +kernel
theorem dX9_open_72 : decode cX9_open 72 = .ok (.putfield 133, 3) := by decide +kernel
theorem dX9_open_75 : decode cX9_open 75 = .ok (.aload_n 0, 1) := by decide +kernel
theorem dX9_open_76 : decode cX9_open 76 = .ok (.iload_n 1, 1) := by decide +kernel
theorem dX9_open_77 : decode cX9_open 77 = .ok (.putfield 137, 3) := by decide +kernel
theorem dX9_open_80 : decode cX9_open 80 = .ok (.aload_n 0, 1) := by decide +kernel
theorem dX9_open_81 : decode cX9_open 81 = .ok (.iload_n 2, 1) := by decide +kernel
theorem dX9_open_82 : decode cX9_open 82 = .ok (.putfield 140, 3) := by decide +kernel
theorem dX9_open_85 : decode cX9_open 85 = .ok (.aload_n 0, 1) := by decide +kernel
theorem dX9_open_86 : decode cX9_open 86 = .ok (.iconst 0, 1) := by decide +kernel
theorem dX9_open_87 : decode cX9_open 87 = .ok (.putfield 143, 3) := by decide +kernel
theorem dX9_open_90 : decode cX9_open 90 = .ok (.aload_n 0, 1) := by decide +kernel
theorem dX9_open_91 : decode cX9_open 91 = .ok (.getfield 117, 3) := by decide +kernel
theorem dX9_open_94 : decode cX9_open 94 = .ok (.ireturn, 1) := by decide +kernel
theorem dX9_addWord_0 : decode cX9_addWord 0 = .ok (.aload_n 0, 1) := by decide +kernel
theorem dX9_addWord_1 : decode cX9_addWord 1 = .ok (.iload_n 1, 1) := by decide +kernel
theorem dX9_addWord_2 : decode cX9_addWord 2 = .ok (.invokestatic 120, 3) := by decide +kernel
theorem dX9_addWord_5 : decode cX9_addWord 5 = .ok (.ifCond .ne 7, 3) := by decide +kernel
theorem dX9_addWord_8 : decode cX9_addWord 8 = .ok (.iconst 1, 1) := by decide +kernel
theorem dX9_addWord_9 : decode cX9_addWord 9 = .ok (.goto 24, 3) := by decide +kernel
theorem dX9_addWord_12 : decode cX9_addWord 12 = .ok (.aload_n 0, 1) := by decide +kernel
theorem dX9_addWord_13 : decode cX9_addWord 13 = .ok (.getfield 133, 3) := by decide +kernel
theorem dX9_addWord_16 : decode cX9_addWord 16 = .ok (.ifCond .eq 12, 3) := by decide +kernel
theorem dX9_addWord_19 : decode cX9_addWord 19 = .ok (.aload_n 0, 1) := by decide +kernel
theorem dX9_addWord_20 : decode cX9_addWord 20 = .ok (.getfield 143, 3) := by decide +kernel
theorem dX9_addWord_23 : decode cX9_addWord 23 = .ok (.bipush 12, 2) := by decide +kernel
theorem dX9_addWord_25 : decode cX9_addWord 25 = .ok (.if_icmp .ne 7, 3) := by decide +kernel
theorem dX9_addWord_28 : decode cX9_addWord 28 = .ok (.iconst 2, 1) := by decide +kernel
theorem dX9_addWord_29 : decode cX9_addWord 29 = .ok (.goto 4, 3) := by decide +kernel
theorem dX9_addWord_32 : decode cX9_addWord 32 = .ok (.iconst 0, 1) := by decide +kernel
theorem dX9_addWord_33 : decode cX9_addWord 33 = .ok (.invokevirtual 127, 3) := by decide +kernel
theorem dX9_addWord_36 : decode cX9_addWord 36 = .ok (.ifCond .ne 5, 3) := by decide +kernel
theorem dX9_addWord_39 : decode cX9_addWord 39 = .ok (.iconst 0, 1) := by decide +kernel
theorem dX9_addWord_40 : decode cX9_addWord 40 = .ok (.ireturn, 1) := by decide +kernel
theorem dX9_addWord_41 : decode cX9_addWord 41 = .ok (.aload_n 0, 1) := by decide +kernel
theorem dX9_addWord_42 : decode cX9_addWord 42 = .ok (.getfield 20, 3) := by decide +kernel
theorem dX9_addWord_45 : decode cX9_addWord 45 = .ok (.aload_n 0, 1) := by decide +kernel
theorem dX9_addWord_46 : decode cX9_addWord 46 = .ok (.getfield 143, 3) := by decide +kernel
theorem dX9_addWord_49 : decode cX9_addWord 49 = .ok (.iload_n 1, 1) := by decide +kernel
theorem dX9_addWord_50 : decode cX9_addWord 50 = .ok (.iastore, 1) := by decide +kernel
theorem dX9_addWord_51 : decode cX9_addWord 51 = .ok (.aload_n 0, 1) := by decide +kernel
theorem dX9_addWord_52 : decode cX9_addWord 52 = .ok (.dup, 1) := by decide +kernel
theorem dX9_addWord_53 : decode cX9_addWord 53 = .ok (.getfield 143, 3) := by decide +kernel
theorem dX9_addWord_56 : decode cX9_addWord 56 = .ok (.iconst 1, 1) := by decide +kernel
theorem dX9_addWord_57 : decode cX9_addWord 57 = .ok (.iadd, 1) := by decide +kernel
theorem dX9_addWord_58 : decode cX9_addWord 58 = .ok (.putfield 143, 3) := by decide +kernel
theorem dX9_addWord_61 : decode cX9_addWord 61 = .ok (.aload_n 0, 1) := by decide +kernel
theorem dX9_addWord_62 : decode cX9_addWord 62 = .ok (.getfield 143, 3) := by decide +kernel
theorem dX9_addWord_65 : decode cX9_addWord 65 = .ok (.ireturn, 1) := by decide +kernel
theorem dX9_keeps_0 : decode cX9_keeps 0 = .ok (.aload_n 0, 1) := by decide +kernel
theorem dX9_keeps_1 : decode cX9_keeps 1 = .ok (.getfield 84, 3) := by decide +kernel
theorem dX9_keeps_4 : decode cX9_keeps 4 = .ok (.iload_n 1, 1) := by decide +kernel
theorem dX9_keeps_5 : decode cX9_keeps 5 = .ok (.aload_n 0, 1) := by decide +kernel
theorem dX9_keeps_6 : decode cX9_keeps 6 = .ok (.getfield 84, 3) := by decide +kernel
theorem dX9_keeps_9 : decode cX9_keeps 9 = .ok (.iload_n 2, 1) := by decide +kernel
theorem dX9_keeps_10 : decode cX9_keeps 10 = .ok (.iaload, 1) := by decide +kernel
theorem dX9_keeps_11 : decode cX9_keeps 11 = .ok (.iastore, 1) := by decide +kernel
theorem dX9_keeps_12 : decode cX9_keeps 12 = .ok (.aload_n 0, 1) := by decide +kernel
theorem dX9_keeps_13 : decode cX9_keeps 13 = .ok (.getfield 87, 3) := by decide +kernel
theorem dX9_keeps_16 : decode cX9_keeps 16 = .ok (.iload_n 1, 1) := by decide +kernel
theorem dX9_keeps_17 : decode cX9_keeps 17 = .ok (.aload_n 0, 1) := by decide +kernel
theorem dX9_keeps_18 : decode cX9_keeps 18 = .ok (.getfield 87, 3) := by decide +kernel
theorem dX9_keeps_21 : decode cX9_keeps 21 = .ok (.iload_n 2, 1) := by decide +kernel
theorem dX9_keeps_22 : decode cX9_keeps 22 = .ok (.iaload, 1) := by decide +kernel
theorem dX9_keeps_23 : decode cX9_keeps 23 = .ok (.iload_n 3, 1) := by decide +kernel
theorem dX9_keeps_24 : decode cX9_keeps 24 = .ok (.isub, 1) := by decide +kernel
theorem dX9_keeps_25 : decode cX9_keeps 25 = .ok (.iastore, 1) := by decide +kernel
theorem dX9_keeps_26 : decode cX9_keeps 26 = .ok (.aload_n 0, 1) := by decide +kernel
theorem dX9_keeps_27 : decode cX9_keeps 27 = .ok (.getfield 90, 3) := by decide +kernel
theorem dX9_keeps_30 : decode cX9_keeps 30 = .ok (.iload_n 1, 1) := by decide +kernel
theorem dX9_keeps_31 : decode cX9_keeps 31 = .ok (.aload_n 0, 1) := by decide +kernel
theorem dX9_keeps_32 : decode cX9_keeps 32 = .ok (.getfield 90, 3) := by decide +kernel
theorem dX9_keeps_35 : decode cX9_keeps 35 = .ok (.iload_n 2, 1) := by decide +kernel
theorem dX9_keeps_36 : decode cX9_keeps 36 = .ok (.iaload, 1) := by decide +kernel
theorem dX9_keeps_37 : decode cX9_keeps 37 = .ok (.iastore, 1) := by decide +kernel
theorem dX9_keeps_38 : decode cX9_keeps 38 = .ok (.return_, 1) := by decide +kernel
theorem dX9_takenAhead_0 : decode cX9_takenAhead 0 = .ok (.iconst 0, 1) := by decide +kernel
theorem dX9_takenAhead_1 : decode cX9_takenAhead 1 = .ok (.istore_n 3, 1) := by decide +kernel
theorem dX9_takenAhead_2 : decode cX9_takenAhead 2 = .ok (.iconst 0, 1) := by decide +kernel
theorem dX9_takenAhead_3 : decode cX9_takenAhead 3 = .ok (.istore 4, 2) := by decide +kernel
theorem dX9_takenAhead_5 : decode cX9_takenAhead 5 = .ok (.iload 4, 2) := by decide +kernel
theorem dX9_takenAhead_7 : decode cX9_takenAhead 7 = .ok (.aload_n 0, 1) := by decide +kernel
theorem dX9_takenAhead_8 : decode cX9_takenAhead 8 = .ok (.getfield 146, 3) := by decide +kernel
theorem dX9_takenAhead_11 : decode cX9_takenAhead 11 = .ok (.if_icmp .ge 39, 3) := by decide +kernel
theorem dX9_takenAhead_14 : decode cX9_takenAhead 14 = .ok (.iload_n 3, 1) := by decide +kernel
theorem dX9_takenAhead_15 : decode cX9_takenAhead 15 = .ok (.aload_n 0, 1) := by decide +kernel
theorem dX9_takenAhead_16 : decode cX9_takenAhead 16 = .ok (.getfield 84, 3) := by decide +kernel
theorem dX9_takenAhead_19 : decode cX9_takenAhead 19 = .ok (.iload 4, 2) := by decide +kernel
theorem dX9_takenAhead_21 : decode cX9_takenAhead 21 = .ok (.iaload, 1) := by decide +kernel
theorem dX9_takenAhead_22 : decode cX9_takenAhead 22 = .ok (.iload_n 1, 1) := by decide +kernel
theorem dX9_takenAhead_23 : decode cX9_takenAhead 23 = .ok (.if_icmp .ne 18, 3) := by decide +kernel
theorem dX9_takenAhead_26 : decode cX9_takenAhead 26 = .ok (.aload_n 0, 1) := by decide +kernel
theorem dX9_takenAhead_27 : decode cX9_takenAhead 27 = .ok (.getfield 87, 3) := by decide +kernel
theorem dX9_takenAhead_30 : decode cX9_takenAhead 30 = .ok (.iload 4, 2) := by decide +kernel
theorem dX9_takenAhead_32 : decode cX9_takenAhead 32 = .ok (.iaload, 1) := by decide +kernel
theorem dX9_takenAhead_33 : decode cX9_takenAhead 33 = .ok (.iload_n 2, 1) := by decide +kernel
theorem dX9_takenAhead_34 : decode cX9_takenAhead 34 = .ok (.if_icmp .ge 7, 3) := by decide +kernel
theorem dX9_takenAhead_37 : decode cX9_takenAhead 37 = .ok (.iconst 1, 1) := by decide +kernel
theorem dX9_takenAhead_38 : decode cX9_takenAhead 38 = .ok (.goto 4, 3) := by decide +kernel
theorem dX9_takenAhead_41 : decode cX9_takenAhead 41 = .ok (.iconst 0, 1) := by decide +kernel
theorem dX9_takenAhead_42 : decode cX9_takenAhead 42 = .ok (.iadd, 1) := by decide +kernel
theorem dX9_takenAhead_43 : decode cX9_takenAhead 43 = .ok (.istore_n 3, 1) := by decide +kernel
theorem dX9_takenAhead_44 : decode cX9_takenAhead 44 = .ok (.iinc 4 1, 3) := by decide +kernel
theorem dX9_takenAhead_47 : decode cX9_takenAhead 47 = .ok (.goto (-42), 3) := by decide +kernel
theorem dX9_takenAhead_50 : decode cX9_takenAhead 50 = .ok (.iload_n 3, 1) := by decide +kernel
theorem dX9_takenAhead_51 : decode cX9_takenAhead 51 = .ok (.ireturn, 1) := by decide +kernel
theorem dX9_takesOut_0 : decode cX9_takesOut 0 = .ok (.iconst 0, 1) := by decide +kernel
theorem dX9_takesOut_1 : decode cX9_takesOut 1 = .ok (.istore_n 3, 1) := by decide +kernel
theorem dX9_takesOut_2 : decode cX9_takesOut 2 = .ok (.iload_n 3, 1) := by decide +kernel
theorem dX9_takesOut_3 : decode cX9_takesOut 3 = .ok (.aload_n 0, 1) := by decide +kernel
theorem dX9_takesOut_4 : decode cX9_takesOut 4 = .ok (.getfield 146, 3) := by decide +kernel
theorem dX9_takesOut_7 : decode cX9_takesOut 7 = .ok (.if_icmp .ge 34, 3) := by decide +kernel
theorem dX9_takesOut_10 : decode cX9_takesOut 10 = .ok (.aload_n 0, 1) := by decide +kernel
theorem dX9_takesOut_11 : decode cX9_takesOut 11 = .ok (.getfield 93, 3) := by decide +kernel
theorem dX9_takesOut_14 : decode cX9_takesOut 14 = .ok (.iload_n 3, 1) := by decide +kernel
theorem dX9_takesOut_15 : decode cX9_takesOut 15 = .ok (.iload_n 2, 1) := by decide +kernel
theorem dX9_takesOut_16 : decode cX9_takesOut 16 = .ok (.ifCond .eq 17, 3) := by decide +kernel
theorem dX9_takesOut_19 : decode cX9_takesOut 19 = .ok (.aload_n 0, 1) := by decide +kernel
theorem dX9_takesOut_20 : decode cX9_takesOut 20 = .ok (.iload_n 1, 1) := by decide +kernel
theorem dX9_takesOut_21 : decode cX9_takesOut 21 = .ok (.aload_n 0, 1) := by decide +kernel
theorem dX9_takesOut_22 : decode cX9_takesOut 22 = .ok (.getfield 87, 3) := by decide +kernel
theorem dX9_takesOut_25 : decode cX9_takesOut 25 = .ok (.iload_n 3, 1) := by decide +kernel
theorem dX9_takesOut_26 : decode cX9_takesOut 26 = .ok (.iaload, 1) := by decide +kernel
theorem dX9_takesOut_27 : decode cX9_takesOut 27 = .ok (.invokevirtual 149, 3) := by decide +kernel
theorem dX9_takesOut_30 : decode cX9_takesOut 30 = .ok (.goto 4, 3) := by decide +kernel
theorem dX9_takesOut_33 : decode cX9_takesOut 33 = .ok (.iconst 0, 1) := by decide +kernel
theorem dX9_takesOut_34 : decode cX9_takesOut 34 = .ok (.iastore, 1) := by decide +kernel
theorem dX9_takesOut_35 : decode cX9_takesOut 35 = .ok (.iinc 3 1, 3) := by decide +kernel
theorem dX9_takesOut_38 : decode cX9_takesOut 38 = .ok (.goto (-36), 3) := by decide +kernel
theorem dX9_takesOut_41 : decode cX9_takesOut 41 = .ok (.iconst 0, 1) := by decide +kernel
theorem dX9_takesOut_42 : decode cX9_takesOut 42 = .ok (.istore_n 3, 1) := by decide +kernel
theorem dX9_takesOut_43 : decode cX9_takesOut 43 = .ok (.iconst 0, 1) := by decide +kernel
theorem dX9_takesOut_44 : decode cX9_takesOut 44 = .ok (.istore 4, 2) := by decide +kernel
theorem dX9_takesOut_46 : decode cX9_takesOut 46 = .ok (.iload 4, 2) := by decide +kernel
theorem dX9_takesOut_48 : decode cX9_takesOut 48 = .ok (.aload_n 0, 1) := by decide +kernel
theorem dX9_takesOut_49 : decode cX9_takesOut 49 = .ok (.getfield 146, 3) := by decide +kernel
theorem dX9_takesOut_52 : decode cX9_takesOut 52 = .ok (.if_icmp .ge 37, 3) := by decide +kernel
theorem dX9_takesOut_55 : decode cX9_takesOut 55 = .ok (.aload_n 0, 1) := by decide +kernel
theorem dX9_takesOut_56 : decode cX9_takesOut 56 = .ok (.getfield 84, 3) := by decide +kernel
theorem dX9_takesOut_59 : decode cX9_takesOut 59 = .ok (.iload 4, 2) := by decide +kernel
theorem dX9_takesOut_61 : decode cX9_takesOut 61 = .ok (.iaload, 1) := by decide +kernel
theorem dX9_takesOut_62 : decode cX9_takesOut 62 = .ok (.iload_n 1, 1) := by decide +kernel
theorem dX9_takesOut_63 : decode cX9_takesOut 63 = .ok (.if_icmp .eq 20, 3) := by decide +kernel
theorem dX9_takesOut_66 : decode cX9_takesOut 66 = .ok (.aload_n 0, 1) := by decide +kernel
theorem dX9_takesOut_67 : decode cX9_takesOut 67 = .ok (.iload_n 3, 1) := by decide +kernel
theorem dX9_takesOut_68 : decode cX9_takesOut 68 = .ok (.iload 4, 2) := by decide +kernel
theorem dX9_takesOut_70 : decode cX9_takesOut 70 = .ok (.aload_n 0, 1) := by decide +kernel
theorem dX9_takesOut_71 : decode cX9_takesOut 71 = .ok (.getfield 93, 3) := by decide +kernel
theorem dX9_takesOut_74 : decode cX9_takesOut 74 = .ok (.iload 4, 2) := by decide +kernel
theorem dX9_takesOut_76 : decode cX9_takesOut 76 = .ok (.iaload, 1) := by decide +kernel
theorem dX9_takesOut_77 : decode cX9_takesOut 77 = .ok (.invokevirtual 153, 3) := by decide +kernel
theorem dX9_takesOut_80 : decode cX9_takesOut 80 = .ok (.iinc 3 1, 3) := by decide +kernel
theorem dX9_takesOut_83 : decode cX9_takesOut 83 = .ok (.iinc 4 1, 3) := by decide +kernel
theorem dX9_takesOut_86 : decode cX9_takesOut 86 = .ok (.goto (-40), 3) := by decide +kernel
theorem dX9_takesOut_89 : decode cX9_takesOut 89 = .ok (.aload_n 0, 1) := by decide +kernel
theorem dX9_takesOut_90 : decode cX9_takesOut 90 = .ok (.iload_n 3, 1) := by decide +kernel
theorem dX9_takesOut_91 : decode cX9_takesOut 91 = .ok (.putfield 146, 3) := by decide +kernel
theorem dX9_takesOut_94 : decode cX9_takesOut 94 = .ok (.return_, 1) := by decide +kernel
theorem dX9_stands_0 : decode cX9_stands 0 = .ok (.iconst 0, 1) := by decide +kernel
theorem dX9_stands_1 : decode cX9_stands 1 = .ok (.istore_n 3, 1) := by decide +kernel
theorem dX9_stands_2 : decode cX9_stands 2 = .ok (.iconst 0, 1) := by decide +kernel
theorem dX9_stands_3 : decode cX9_stands 3 = .ok (.istore 4, 2) := by decide +kernel
theorem dX9_stands_5 : decode cX9_stands 5 = .ok (.iload 4, 2) := by decide +kernel
theorem dX9_stands_7 : decode cX9_stands 7 = .ok (.aload_n 0, 1) := by decide +kernel
theorem dX9_stands_8 : decode cX9_stands 8 = .ok (.getfield 146, 3) := by decide +kernel
theorem dX9_stands_11 : decode cX9_stands 11 = .ok (.if_icmp .ge 41, 3) := by decide +kernel
theorem dX9_stands_14 : decode cX9_stands 14 = .ok (.iload_n 3, 1) := by decide +kernel
theorem dX9_stands_15 : decode cX9_stands 15 = .ok (.ifCond .ne 25, 3) := by decide +kernel
theorem dX9_stands_18 : decode cX9_stands 18 = .ok (.aload_n 0, 1) := by decide +kernel
theorem dX9_stands_19 : decode cX9_stands 19 = .ok (.getfield 84, 3) := by decide +kernel
theorem dX9_stands_22 : decode cX9_stands 22 = .ok (.iload 4, 2) := by decide +kernel
theorem dX9_stands_24 : decode cX9_stands 24 = .ok (.iaload, 1) := by decide +kernel
theorem dX9_stands_25 : decode cX9_stands 25 = .ok (.iload_n 1, 1) := by decide +kernel
theorem dX9_stands_26 : decode cX9_stands 26 = .ok (.if_icmp .ne 18, 3) := by decide +kernel
theorem dX9_stands_29 : decode cX9_stands 29 = .ok (.aload_n 0, 1) := by decide +kernel
theorem dX9_stands_30 : decode cX9_stands 30 = .ok (.getfield 87, 3) := by decide +kernel
theorem dX9_stands_33 : decode cX9_stands 33 = .ok (.iload 4, 2) := by decide +kernel
theorem dX9_stands_35 : decode cX9_stands 35 = .ok (.iaload, 1) := by decide +kernel
theorem dX9_stands_36 : decode cX9_stands 36 = .ok (.iload_n 2, 1) := by decide +kernel
theorem dX9_stands_37 : decode cX9_stands 37 = .ok (.if_icmp .ne 7, 3) := by decide +kernel
theorem dX9_stands_40 : decode cX9_stands 40 = .ok (.iconst 1, 1) := by decide +kernel
theorem dX9_stands_41 : decode cX9_stands 41 = .ok (.goto 4, 3) := by decide +kernel
theorem dX9_stands_44 : decode cX9_stands 44 = .ok (.iconst 0, 1) := by decide +kernel
theorem dX9_stands_45 : decode cX9_stands 45 = .ok (.istore_n 3, 1) := by decide +kernel
theorem dX9_stands_46 : decode cX9_stands 46 = .ok (.iinc 4 1, 3) := by decide +kernel
theorem dX9_stands_49 : decode cX9_stands 49 = .ok (.goto (-44), 3) := by decide +kernel
theorem dX9_stands_52 : decode cX9_stands 52 = .ok (.iload_n 3, 1) := by decide +kernel
theorem dX9_stands_53 : decode cX9_stands 53 = .ok (.ireturn, 1) := by decide +kernel
theorem dX9_puts_0 : decode cX9_puts 0 = .ok (.aload_n 0, 1) := by decide +kernel
theorem dX9_puts_1 : decode cX9_puts 1 = .ok (.getfield 146, 3) := by decide +kernel
theorem dX9_puts_4 : decode cX9_puts 4 = .ok (.istore_n 3, 1) := by decide +kernel
theorem dX9_puts_5 : decode cX9_puts 5 = .ok (.iconst 0, 1) := by decide +kernel
theorem dX9_puts_6 : decode cX9_puts 6 = .ok (.istore 4, 2) := by decide +kernel
theorem dX9_puts_8 : decode cX9_puts 8 = .ok (.iload 4, 2) := by decide +kernel
theorem dX9_puts_10 : decode cX9_puts 10 = .ok (.iload_n 3, 1) := by decide +kernel
theorem dX9_puts_11 : decode cX9_puts 11 = .ok (.if_icmp .ge 87, 3) := by decide +kernel
theorem dX9_puts_14 : decode cX9_puts 14 = .ok (.aload_n 0, 1) := by decide +kernel
theorem dX9_puts_15 : decode cX9_puts 15 = .ok (.getfield 84, 3) := by decide +kernel
theorem dX9_puts_18 : decode cX9_puts 18 = .ok (.iload 4, 2) := by decide +kernel
theorem dX9_puts_20 : decode cX9_puts 20 = .ok (.iaload, 1) := by decide +kernel
theorem dX9_puts_21 : decode cX9_puts 21 = .ok (.iload_n 1, 1) := by decide +kernel
theorem dX9_puts_22 : decode cX9_puts 22 = .ok (.if_icmp .ne 70, 3) := by decide +kernel
theorem dX9_puts_25 : decode cX9_puts 25 = .ok (.aload_n 0, 1) := by decide +kernel
theorem dX9_puts_26 : decode cX9_puts 26 = .ok (.iload_n 2, 1) := by decide +kernel
theorem dX9_puts_27 : decode cX9_puts 27 = .ok (.aload_n 0, 1) := by decide +kernel
theorem dX9_puts_28 : decode cX9_puts 28 = .ok (.getfield 87, 3) := by decide +kernel
theorem dX9_puts_31 : decode cX9_puts 31 = .ok (.iload 4, 2) := by decide +kernel
theorem dX9_puts_33 : decode cX9_puts 33 = .ok (.iaload, 1) := by decide +kernel
theorem dX9_puts_34 : decode cX9_puts 34 = .ok (.invokevirtual 157, 3) := by decide +kernel
theorem dX9_puts_37 : decode cX9_puts 37 = .ok (.ifCond .ne 55, 3) := by decide +kernel
theorem dX9_puts_40 : decode cX9_puts 40 = .ok (.aload_n 0, 1) := by decide +kernel
theorem dX9_puts_41 : decode cX9_puts 41 = .ok (.getfield 84, 3) := by decide +kernel
theorem dX9_puts_44 : decode cX9_puts 44 = .ok (.aload_n 0, 1) := by decide +kernel
theorem dX9_puts_45 : decode cX9_puts 45 = .ok (.getfield 146, 3) := by decide +kernel
theorem dX9_puts_48 : decode cX9_puts 48 = .ok (.iload_n 2, 1) := by decide +kernel
theorem dX9_puts_49 : decode cX9_puts 49 = .ok (.iastore, 1) := by decide +kernel
theorem dX9_puts_50 : decode cX9_puts 50 = .ok (.aload_n 0, 1) := by decide +kernel
theorem dX9_puts_51 : decode cX9_puts 51 = .ok (.getfield 87, 3) := by decide +kernel
theorem dX9_puts_54 : decode cX9_puts 54 = .ok (.aload_n 0, 1) := by decide +kernel
theorem dX9_puts_55 : decode cX9_puts 55 = .ok (.getfield 146, 3) := by decide +kernel
theorem dX9_puts_58 : decode cX9_puts 58 = .ok (.aload_n 0, 1) := by decide +kernel
theorem dX9_puts_59 : decode cX9_puts 59 = .ok (.getfield 87, 3) := by decide +kernel
theorem dX9_puts_62 : decode cX9_puts 62 = .ok (.iload 4, 2) := by decide +kernel
theorem dX9_puts_64 : decode cX9_puts 64 = .ok (.iaload, 1) := by decide +kernel
theorem dX9_puts_65 : decode cX9_puts 65 = .ok (.iastore, 1) := by decide +kernel
theorem dX9_puts_66 : decode cX9_puts 66 = .ok (.aload_n 0, 1) := by decide +kernel
theorem dX9_puts_67 : decode cX9_puts 67 = .ok (.getfield 90, 3) := by decide +kernel
theorem dX9_puts_70 : decode cX9_puts 70 = .ok (.aload_n 0, 1) := by decide +kernel
theorem dX9_puts_71 : decode cX9_puts 71 = .ok (.getfield 146, 3) := by decide +kernel
theorem dX9_puts_74 : decode cX9_puts 74 = .ok (.aload_n 0, 1) := by decide +kernel
theorem dX9_puts_75 : decode cX9_puts 75 = .ok (.getfield 90, 3) := by decide +kernel
theorem dX9_puts_78 : decode cX9_puts 78 = .ok (.iload 4, 2) := by decide +kernel
theorem dX9_puts_80 : decode cX9_puts 80 = .ok (.iaload, 1) := by decide +kernel
theorem dX9_puts_81 : decode cX9_puts 81 = .ok (.iastore, 1) := by decide +kernel
theorem dX9_puts_82 : decode cX9_puts 82 = .ok (.aload_n 0, 1) := by decide +kernel
theorem dX9_puts_83 : decode cX9_puts 83 = .ok (.dup, 1) := by decide +kernel
theorem dX9_puts_84 : decode cX9_puts 84 = .ok (.getfield 146, 3) := by decide +kernel
theorem dX9_puts_87 : decode cX9_puts 87 = .ok (.iconst 1, 1) := by decide +kernel
theorem dX9_puts_88 : decode cX9_puts 88 = .ok (.iadd, 1) := by decide +kernel
theorem dX9_puts_89 : decode cX9_puts 89 = .ok (.putfield 146, 3) := by decide +kernel
theorem dX9_puts_92 : decode cX9_puts 92 = .ok (.iinc 4 1, 3) := by decide +kernel
theorem dX9_puts_95 : decode cX9_puts 95 = .ok (.goto (-87), 3) := by decide +kernel
theorem dX9_puts_98 : decode cX9_puts 98 = .ok (.return_, 1) := by decide +kernel
theorem dX9_goesThrough_0 : decode cX9_goesThrough 0 = .ok (.aload_n 0, 1) := by decide +kernel
theorem dX9_goesThrough_1 : decode cX9_goesThrough 1 = .ok (.getfield 9, 3) := by decide +kernel
theorem dX9_goesThrough_4 : decode cX9_goesThrough 4 = .ok (.iload_n 1, 1) := by decide +kernel
theorem dX9_goesThrough_5 : decode cX9_goesThrough 5 = .ok (.caload, 1) := by decide +kernel
theorem dX9_goesThrough_6 : decode cX9_goesThrough 6 = .ok (.istore_n 2, 1) := by decide +kernel
theorem dX9_goesThrough_7 : decode cX9_goesThrough 7 = .ok (.iload_n 2, 1) := by decide +kernel
theorem dX9_goesThrough_8 : decode cX9_goesThrough 8 = .ok (.bipush 115, 2) := by decide +kernel
theorem dX9_goesThrough_10 : decode cX9_goesThrough 10 = .ok (.if_icmp .eq 9, 3) := by decide +kernel
theorem dX9_goesThrough_13 : decode cX9_goesThrough 13 = .ok (.iload_n 2, 1) := by decide +kernel
theorem dX9_goesThrough_14 : decode cX9_goesThrough 14 = .ok (.bipush 99, 2) := by decide +kernel
theorem dX9_goesThrough_16 : decode cX9_goesThrough 16 = .ok (.if_icmp .ne 27, 3) := by decide +kernel
theorem dX9_goesThrough_19 : decode cX9_goesThrough 19 = .ok (.aload_n 0, 1) := by decide +kernel
theorem dX9_goesThrough_20 : decode cX9_goesThrough 20 = .ok (.aload_n 0, 1) := by decide +kernel
theorem dX9_goesThrough_21 : decode cX9_goesThrough 21 = .ok (.getfield 13, 3) := by decide +kernel
theorem dX9_goesThrough_24 : decode cX9_goesThrough 24 = .ok (.iload_n 1, 1) := by decide +kernel
theorem dX9_goesThrough_25 : decode cX9_goesThrough 25 = .ok (.iaload, 1) := by decide +kernel
theorem dX9_goesThrough_26 : decode cX9_goesThrough 26 = .ok (.iload_n 2, 1) := by decide +kernel
theorem dX9_goesThrough_27 : decode cX9_goesThrough 27 = .ok (.bipush 99, 2) := by decide +kernel
theorem dX9_goesThrough_29 : decode cX9_goesThrough 29 = .ok (.if_icmp .ne 7, 3) := by decide +kernel
theorem dX9_goesThrough_32 : decode cX9_goesThrough 32 = .ok (.iconst 1, 1) := by decide +kernel
theorem dX9_goesThrough_33 : decode cX9_goesThrough 33 = .ok (.goto 4, 3) := by decide +kernel
theorem dX9_goesThrough_36 : decode cX9_goesThrough 36 = .ok (.iconst 0, 1) := by decide +kernel
theorem dX9_goesThrough_37 : decode cX9_goesThrough 37 = .ok (.invokevirtual 161, 3) := by decide +kernel
theorem dX9_goesThrough_40 : decode cX9_goesThrough 40 = .ok (.goto 25, 3) := by decide +kernel
theorem dX9_goesThrough_43 : decode cX9_goesThrough 43 = .ok (.iload_n 2, 1) := by decide +kernel
theorem dX9_goesThrough_44 : decode cX9_goesThrough 44 = .ok (.bipush 121, 2) := by decide +kernel
theorem dX9_goesThrough_46 : decode cX9_goesThrough 46 = .ok (.if_icmp .ne 19, 3) := by decide +kernel
theorem dX9_goesThrough_49 : decode cX9_goesThrough 49 = .ok (.aload_n 0, 1) := by decide +kernel
theorem dX9_goesThrough_50 : decode cX9_goesThrough 50 = .ok (.aload_n 0, 1) := by decide +kernel
theorem dX9_goesThrough_51 : decode cX9_goesThrough 51 = .ok (.getfield 13, 3) := by decide +kernel
theorem dX9_goesThrough_54 : decode cX9_goesThrough 54 = .ok (.iload_n 1, 1) := by decide +kernel
theorem dX9_goesThrough_55 : decode cX9_goesThrough 55 = .ok (.iaload, 1) := by decide +kernel
theorem dX9_goesThrough_56 : decode cX9_goesThrough 56 = .ok (.aload_n 0, 1) := by decide +kernel
theorem dX9_goesThrough_57 : decode cX9_goesThrough 57 = .ok (.getfield 17, 3) := by decide +kernel
theorem dX9_goesThrough_60 : decode cX9_goesThrough 60 = .ok (.iload_n 1, 1) := by decide +kernel
theorem dX9_goesThrough_61 : decode cX9_goesThrough 61 = .ok (.iaload, 1) := by decide +kernel
theorem dX9_goesThrough_62 : decode cX9_goesThrough 62 = .ok (.invokevirtual 165, 3) := by decide +kernel
theorem dX9_goesThrough_65 : decode cX9_goesThrough 65 = .ok (.iconst 0, 1) := by decide +kernel
theorem dX9_goesThrough_66 : decode cX9_goesThrough 66 = .ok (.istore_n 3, 1) := by decide +kernel
theorem dX9_goesThrough_67 : decode cX9_goesThrough 67 = .ok (.iload_n 3, 1) := by decide +kernel
theorem dX9_goesThrough_68 : decode cX9_goesThrough 68 = .ok (.aload_n 0, 1) := by decide +kernel
theorem dX9_goesThrough_69 : decode cX9_goesThrough 69 = .ok (.getfield 146, 3) := by decide +kernel
theorem dX9_goesThrough_72 : decode cX9_goesThrough 72 = .ok (.if_icmp .ge 79, 3) := by decide +kernel
theorem dX9_goesThrough_75 : decode cX9_goesThrough 75 = .ok (.aload_n 0, 1) := by decide +kernel
theorem dX9_goesThrough_76 : decode cX9_goesThrough 76 = .ok (.getfield 84, 3) := by decide +kernel
theorem dX9_goesThrough_79 : decode cX9_goesThrough 79 = .ok (.iload_n 3, 1) := by decide +kernel
theorem dX9_goesThrough_80 : decode cX9_goesThrough 80 = .ok (.iload_n 2, 1) := by decide +kernel
theorem dX9_goesThrough_81 : decode cX9_goesThrough 81 = .ok (.bipush 108, 2) := by decide +kernel
theorem dX9_goesThrough_83 : decode cX9_goesThrough 83 = .ok (.if_icmp .ne 26, 3) := by decide +kernel
theorem dX9_goesThrough_86 : decode cX9_goesThrough 86 = .ok (.aload_n 0, 1) := by decide +kernel
theorem dX9_goesThrough_87 : decode cX9_goesThrough 87 = .ok (.getfield 84, 3) := by decide +kernel
theorem dX9_goesThrough_90 : decode cX9_goesThrough 90 = .ok (.iload_n 3, 1) := by decide +kernel
theorem dX9_goesThrough_91 : decode cX9_goesThrough 91 = .ok (.iaload, 1) := by decide +kernel
theorem dX9_goesThrough_92 : decode cX9_goesThrough 92 = .ok (.bipush 30, 2) := by decide +kernel
theorem dX9_goesThrough_94 : decode cX9_goesThrough 94 = .ok (.if_icmp .lt 15, 3) := by decide +kernel
theorem dX9_goesThrough_97 : decode cX9_goesThrough 97 = .ok (.aload_n 0, 1) := by decide +kernel
theorem dX9_goesThrough_98 : decode cX9_goesThrough 98 = .ok (.getfield 84, 3) := by decide +kernel
theorem dX9_goesThrough_101 : decode cX9_goesThrough 101 = .ok (.iload_n 3, 1) := by decide +kernel
theorem dX9_goesThrough_102 : decode cX9_goesThrough 102 = .ok (.iaload, 1) := by decide +kernel
theorem dX9_goesThrough_103 : decode cX9_goesThrough 103 = .ok (.bipush 30, 2) := by decide +kernel
theorem dX9_goesThrough_105 : decode cX9_goesThrough 105 = .ok (.isub, 1) := by decide +kernel
theorem dX9_goesThrough_106 : decode cX9_goesThrough 106 = .ok (.goto 38, 3) := by decide +kernel
theorem dX9_goesThrough_109 : decode cX9_goesThrough 109 = .ok (.iload_n 2, 1) := by decide +kernel
theorem dX9_goesThrough_110 : decode cX9_goesThrough 110 = .ok (.bipush 109, 2) := by decide +kernel
theorem dX9_goesThrough_112 : decode cX9_goesThrough 112 = .ok (.if_icmp .ne 26, 3) := by decide +kernel
theorem dX9_goesThrough_115 : decode cX9_goesThrough 115 = .ok (.aload_n 0, 1) := by decide +kernel
theorem dX9_goesThrough_116 : decode cX9_goesThrough 116 = .ok (.getfield 84, 3) := by decide +kernel
theorem dX9_goesThrough_119 : decode cX9_goesThrough 119 = .ok (.iload_n 3, 1) := by decide +kernel
theorem dX9_goesThrough_120 : decode cX9_goesThrough 120 = .ok (.iaload, 1) := by decide +kernel
theorem dX9_goesThrough_121 : decode cX9_goesThrough 121 = .ok (.iconst 2, 1) := by decide +kernel
theorem dX9_goesThrough_122 : decode cX9_goesThrough 122 = .ok (.irem, 1) := by decide +kernel
theorem dX9_goesThrough_123 : decode cX9_goesThrough 123 = .ok (.iconst 1, 1) := by decide +kernel
theorem dX9_goesThrough_124 : decode cX9_goesThrough 124 = .ok (.if_icmp .ne 14, 3) := by decide +kernel
theorem dX9_goesThrough_127 : decode cX9_goesThrough 127 = .ok (.aload_n 0, 1) := by decide +kernel
theorem dX9_goesThrough_128 : decode cX9_goesThrough 128 = .ok (.getfield 84, 3) := by decide +kernel
theorem dX9_goesThrough_131 : decode cX9_goesThrough 131 = .ok (.iload_n 3, 1) := by decide +kernel
theorem dX9_goesThrough_132 : decode cX9_goesThrough 132 = .ok (.iaload, 1) := by decide +kernel
theorem dX9_goesThrough_133 : decode cX9_goesThrough 133 = .ok (.iconst 1, 1) := by decide +kernel
theorem dX9_goesThrough_134 : decode cX9_goesThrough 134 = .ok (.isub, 1) := by decide +kernel
theorem dX9_goesThrough_135 : decode cX9_goesThrough 135 = .ok (.goto 9, 3) := by decide +kernel
theorem dX9_goesThrough_138 : decode cX9_goesThrough 138 = .ok (.aload_n 0, 1) := by decide +kernel
theorem dX9_goesThrough_139 : decode cX9_goesThrough 139 = .ok (.getfield 84, 3) := by decide +kernel
theorem dX9_goesThrough_142 : decode cX9_goesThrough 142 = .ok (.iload_n 3, 1) := by decide +kernel
theorem dX9_goesThrough_143 : decode cX9_goesThrough 143 = .ok (.iaload, 1) := by decide +kernel
theorem dX9_goesThrough_144 : decode cX9_goesThrough 144 = .ok (.iastore, 1) := by decide +kernel
theorem dX9_goesThrough_145 : decode cX9_goesThrough 145 = .ok (.iinc 3 1, 3) := by decide +kernel
theorem dX9_goesThrough_148 : decode cX9_goesThrough 148 = .ok (.goto (-81), 3) := by decide +kernel
theorem dX9_goesThrough_151 : decode cX9_goesThrough 151 = .ok (.return_, 1) := by decide +kernel
theorem dX9_close_0 : decode cX9_close 0 = .ok (.aload_n 0, 1) := by decide +kernel
theorem dX9_close_1 : decode cX9_close 1 = .ok (.aload_n 0, 1) := by decide +kernel
theorem dX9_close_2 : decode cX9_close 2 = .ok (.getfield 133, 3) := by decide +kernel
theorem dX9_close_5 : decode cX9_close 5 = .ok (.ifCond .eq 7, 3) := by decide +kernel
theorem dX9_close_8 : decode cX9_close 8 = .ok (.iconst 0, 1) := by decide +kernel
theorem dX9_close_9 : decode cX9_close 9 = .ok (.goto 4, 3) := by decide +kernel
theorem dX9_close_12 : decode cX9_close 12 = .ok (.iconst 1, 1) := by decide +kernel
theorem dX9_close_13 : decode cX9_close 13 = .ok (.invokevirtual 127, 3) := by decide +kernel
theorem dX9_close_16 : decode cX9_close 16 = .ok (.ifCond .ne 5, 3) := by decide +kernel
theorem dX9_close_19 : decode cX9_close 19 = .ok (.iconst 0, 1) := by decide +kernel
theorem dX9_close_20 : decode cX9_close 20 = .ok (.ireturn, 1) := by decide +kernel
theorem dX9_close_21 : decode cX9_close 21 = .ok (.aload_n 0, 1) := by decide +kernel
theorem dX9_close_22 : decode cX9_close 22 = .ok (.aload_n 0, 1) := by decide +kernel
theorem dX9_close_23 : decode cX9_close 23 = .ok (.getfield 143, 3) := by decide +kernel
theorem dX9_close_26 : decode cX9_close 26 = .ok (.putfield 146, 3) := by decide +kernel
theorem dX9_close_29 : decode cX9_close 29 = .ok (.iconst 0, 1) := by decide +kernel
theorem dX9_close_30 : decode cX9_close 30 = .ok (.istore_n 1, 1) := by decide +kernel
theorem dX9_close_31 : decode cX9_close 31 = .ok (.iload_n 1, 1) := by decide +kernel
theorem dX9_close_32 : decode cX9_close 32 = .ok (.aload_n 0, 1) := by decide +kernel
theorem dX9_close_33 : decode cX9_close 33 = .ok (.getfield 146, 3) := by decide +kernel
theorem dX9_close_36 : decode cX9_close 36 = .ok (.if_icmp .ge 35, 3) := by decide +kernel
theorem dX9_close_39 : decode cX9_close 39 = .ok (.aload_n 0, 1) := by decide +kernel
theorem dX9_close_40 : decode cX9_close 40 = .ok (.getfield 84, 3) := by decide +kernel
theorem dX9_close_43 : decode cX9_close 43 = .ok (.iload_n 1, 1) := by decide +kernel
theorem dX9_close_44 : decode cX9_close 44 = .ok (.aload_n 0, 1) := by decide +kernel
theorem dX9_close_45 : decode cX9_close 45 = .ok (.getfield 20, 3) := by decide +kernel
theorem dX9_close_48 : decode cX9_close 48 = .ok (.iload_n 1, 1) := by decide +kernel
theorem dX9_close_49 : decode cX9_close 49 = .ok (.iaload, 1) := by decide +kernel
theorem dX9_close_50 : decode cX9_close 50 = .ok (.iastore, 1) := by decide +kernel
theorem dX9_close_51 : decode cX9_close 51 = .ok (.aload_n 0, 1) := by decide +kernel
theorem dX9_close_52 : decode cX9_close 52 = .ok (.getfield 87, 3) := by decide +kernel
theorem dX9_close_55 : decode cX9_close 55 = .ok (.iload_n 1, 1) := by decide +kernel
theorem dX9_close_56 : decode cX9_close 56 = .ok (.iload_n 1, 1) := by decide +kernel
theorem dX9_close_57 : decode cX9_close 57 = .ok (.iastore, 1) := by decide +kernel
theorem dX9_close_58 : decode cX9_close 58 = .ok (.aload_n 0, 1) := by decide +kernel
theorem dX9_close_59 : decode cX9_close 59 = .ok (.getfield 90, 3) := by decide +kernel
theorem dX9_close_62 : decode cX9_close 62 = .ok (.iload_n 1, 1) := by decide +kernel
theorem dX9_close_63 : decode cX9_close 63 = .ok (.iload_n 1, 1) := by decide +kernel
theorem dX9_close_64 : decode cX9_close 64 = .ok (.iastore, 1) := by decide +kernel
theorem dX9_close_65 : decode cX9_close 65 = .ok (.iinc 1 1, 3) := by decide +kernel
theorem dX9_close_68 : decode cX9_close 68 = .ok (.goto (-37), 3) := by decide +kernel
theorem dX9_close_71 : decode cX9_close 71 = .ok (.iconst 0, 1) := by decide +kernel
theorem dX9_close_72 : decode cX9_close 72 = .ok (.istore_n 1, 1) := by decide +kernel
theorem dX9_close_73 : decode cX9_close 73 = .ok (.iload_n 1, 1) := by decide +kernel
theorem dX9_close_74 : decode cX9_close 74 = .ok (.aload_n 0, 1) := by decide +kernel
theorem dX9_close_75 : decode cX9_close 75 = .ok (.getfield 124, 3) := by decide +kernel
theorem dX9_close_78 : decode cX9_close 78 = .ok (.if_icmp .ge 14, 3) := by decide +kernel
theorem dX9_close_81 : decode cX9_close 81 = .ok (.aload_n 0, 1) := by decide +kernel
theorem dX9_close_82 : decode cX9_close 82 = .ok (.iload_n 1, 1) := by decide +kernel
theorem dX9_close_83 : decode cX9_close 83 = .ok (.invokevirtual 169, 3) := by decide +kernel
theorem dX9_close_86 : decode cX9_close 86 = .ok (.iinc 1 1, 3) := by decide +kernel
theorem dX9_close_89 : decode cX9_close 89 = .ok (.goto (-16), 3) := by decide +kernel
theorem dX9_close_92 : decode cX9_close 92 = .ok (.aload_n 0, 1) := by decide +kernel
theorem dX9_close_93 : decode cX9_close 93 = .ok (.getfield 117, 3) := by decide +kernel
theorem dX9_close_96 : decode cX9_close 96 = .ok (.istore_n 1, 1) := by decide +kernel
theorem dX9_close_97 : decode cX9_close 97 = .ok (.aload_n 0, 1) := by decide +kernel
theorem dX9_close_98 : decode cX9_close 98 = .ok (.dup, 1) := by decide +kernel
theorem dX9_close_99 : decode cX9_close 99 = .ok (.getfield 117, 3) := by decide +kernel
theorem dX9_close_102 : decode cX9_close 102 = .ok (.iconst 1, 1) := by decide +kernel
theorem dX9_close_103 : decode cX9_close 103 = .ok (.iadd, 1) := by decide +kernel
theorem dX9_close_104 : decode cX9_close 104 = .ok (.putfield 117, 3) := by decide +kernel
theorem dX9_close_107 : decode cX9_close 107 = .ok (.aload_n 0, 1) := by decide +kernel
theorem dX9_close_108 : decode cX9_close 108 = .ok (.iconst 0, 1) := by decide +kernel
theorem dX9_close_109 : decode cX9_close 109 = .ok (.putfield 133, 3) := by decide +kernel
theorem dX9_close_112 : decode cX9_close 112 = .ok (.aload_n 0, 1) := by decide +kernel
theorem dX9_close_113 : decode cX9_close 113 = .ok (.getfield 23, 3) := by decide +kernel
theorem dX9_close_116 : decode cX9_close 116 = .ok (.iload_n 1, 1) := by decide +kernel
theorem dX9_close_117 : decode cX9_close 117 = .ok (.bipush 98, 2) := by decide +kernel
theorem dX9_close_119 : decode cX9_close 119 = .ok (.castore, 1) := by decide +kernel
theorem dX9_close_120 : decode cX9_close 120 = .ok (.aload_n 0, 1) := by decide +kernel
theorem dX9_close_121 : decode cX9_close 121 = .ok (.getfield 47, 3) := by decide +kernel
theorem dX9_close_124 : decode cX9_close 124 = .ok (.iload_n 1, 1) := by decide +kernel
theorem dX9_close_125 : decode cX9_close 125 = .ok (.iconst (-1), 1) := by decide +kernel
theorem dX9_close_126 : decode cX9_close 126 = .ok (.iastore, 1) := by decide +kernel
theorem dX9_close_127 : decode cX9_close 127 = .ok (.aload_n 0, 1) := by decide +kernel
theorem dX9_close_128 : decode cX9_close 128 = .ok (.getfield 26, 3) := by decide +kernel
theorem dX9_close_131 : decode cX9_close 131 = .ok (.iload_n 1, 1) := by decide +kernel
theorem dX9_close_132 : decode cX9_close 132 = .ok (.aload_n 0, 1) := by decide +kernel
theorem dX9_close_133 : decode cX9_close 133 = .ok (.getfield 137, 3) := by decide +kernel
theorem dX9_close_136 : decode cX9_close 136 = .ok (.iastore, 1) := by decide +kernel
theorem dX9_close_137 : decode cX9_close 137 = .ok (.aload_n 0, 1) := by decide +kernel
theorem dX9_close_138 : decode cX9_close 138 = .ok (.getfield 29, 3) := by decide +kernel
theorem dX9_close_141 : decode cX9_close 141 = .ok (.iload_n 1, 1) := by decide +kernel
theorem dX9_close_142 : decode cX9_close 142 = .ok (.aload_n 0, 1) := by decide +kernel
theorem dX9_close_143 : decode cX9_close 143 = .ok (.getfield 140, 3) := by decide +kernel
theorem dX9_close_146 : decode cX9_close 146 = .ok (.iastore, 1) := by decide +kernel
theorem dX9_close_147 : decode cX9_close 147 = .ok (.aload_n 0, 1) := by decide +kernel
theorem dX9_close_148 : decode cX9_close 148 = .ok (.getfield 35, 3) := by decide +kernel
theorem dX9_close_151 : decode cX9_close 151 = .ok (.iload_n 1, 1) := by decide +kernel
theorem dX9_close_152 : decode cX9_close 152 = .ok (.aload_n 0, 1) := by decide +kernel
theorem dX9_close_153 : decode cX9_close 153 = .ok (.getfield 146, 3) := by decide +kernel
theorem dX9_close_156 : decode cX9_close 156 = .ok (.iastore, 1) := by decide +kernel
theorem dX9_close_157 : decode cX9_close 157 = .ok (.iconst 0, 1) := by decide +kernel
theorem dX9_close_158 : decode cX9_close 158 = .ok (.istore_n 2, 1) := by decide +kernel
theorem dX9_close_159 : decode cX9_close 159 = .ok (.iload_n 2, 1) := by decide +kernel
theorem dX9_close_160 : decode cX9_close 160 = .ok (.aload_n 0, 1) := by decide +kernel
theorem dX9_close_161 : decode cX9_close 161 = .ok (.getfield 146, 3) := by decide +kernel
theorem dX9_close_164 : decode cX9_close 164 = .ok (.if_icmp .ge 60, 3) := by decide +kernel
theorem dX9_close_167 : decode cX9_close 167 = .ok (.aload_n 0, 1) := by decide +kernel
theorem dX9_close_168 : decode cX9_close 168 = .ok (.getfield 38, 3) := by decide +kernel
theorem dX9_close_171 : decode cX9_close 171 = .ok (.bipush 96, 2) := by decide +kernel
theorem dX9_close_173 : decode cX9_close 173 = .ok (.iload_n 1, 1) := by decide +kernel
theorem dX9_close_174 : decode cX9_close 174 = .ok (.imul, 1) := by decide +kernel
theorem dX9_close_175 : decode cX9_close 175 = .ok (.iload_n 2, 1) := by decide +kernel
theorem dX9_close_176 : decode cX9_close 176 = .ok (.iadd, 1) := by decide +kernel
theorem dX9_close_177 : decode cX9_close 177 = .ok (.aload_n 0, 1) := by decide +kernel
theorem dX9_close_178 : decode cX9_close 178 = .ok (.getfield 84, 3) := by decide +kernel
theorem dX9_close_181 : decode cX9_close 181 = .ok (.iload_n 2, 1) := by decide +kernel
theorem dX9_close_182 : decode cX9_close 182 = .ok (.iaload, 1) := by decide +kernel
theorem dX9_close_183 : decode cX9_close 183 = .ok (.iastore, 1) := by decide +kernel
theorem dX9_close_184 : decode cX9_close 184 = .ok (.aload_n 0, 1) := by decide +kernel
theorem dX9_close_185 : decode cX9_close 185 = .ok (.getfield 41, 3) := by decide +kernel
theorem dX9_close_188 : decode cX9_close 188 = .ok (.bipush 96, 2) := by decide +kernel
theorem dX9_close_190 : decode cX9_close 190 = .ok (.iload_n 1, 1) := by decide +kernel
theorem dX9_close_191 : decode cX9_close 191 = .ok (.imul, 1) := by decide +kernel
theorem dX9_close_192 : decode cX9_close 192 = .ok (.iload_n 2, 1) := by decide +kernel
theorem dX9_close_193 : decode cX9_close 193 = .ok (.iadd, 1) := by decide +kernel
theorem dX9_close_194 : decode cX9_close 194 = .ok (.aload_n 0, 1) := by decide +kernel
theorem dX9_close_195 : decode cX9_close 195 = .ok (.getfield 87, 3) := by decide +kernel
theorem dX9_close_198 : decode cX9_close 198 = .ok (.iload_n 2, 1) := by decide +kernel
theorem dX9_close_199 : decode cX9_close 199 = .ok (.iaload, 1) := by decide +kernel
theorem dX9_close_200 : decode cX9_close 200 = .ok (.iastore, 1) := by decide +kernel
theorem dX9_close_201 : decode cX9_close 201 = .ok (.aload_n 0, 1) := by decide +kernel
theorem dX9_close_202 : decode cX9_close 202 = .ok (.getfield 44, 3) := by decide +kernel
theorem dX9_close_205 : decode cX9_close 205 = .ok (.bipush 96, 2) := by decide +kernel
theorem dX9_close_207 : decode cX9_close 207 = .ok (.iload_n 1, 1) := by decide +kernel
theorem dX9_close_208 : decode cX9_close 208 = .ok (.imul, 1) := by decide +kernel
theorem dX9_close_209 : decode cX9_close 209 = .ok (.iload_n 2, 1) := by decide +kernel
theorem dX9_close_210 : decode cX9_close 210 = .ok (.iadd, 1) := by decide +kernel
theorem dX9_close_211 : decode cX9_close 211 = .ok (.aload_n 0, 1) := by decide +kernel
theorem dX9_close_212 : decode cX9_close 212 = .ok (.getfield 90, 3) := by decide +kernel
theorem dX9_close_215 : decode cX9_close 215 = .ok (.iload_n 2, 1) := by decide +kernel
theorem dX9_close_216 : decode cX9_close 216 = .ok (.iaload, 1) := by decide +kernel
theorem dX9_close_217 : decode cX9_close 217 = .ok (.iastore, 1) := by decide +kernel
theorem dX9_close_218 : decode cX9_close 218 = .ok (.iinc 2 1, 3) := by decide +kernel
theorem dX9_close_221 : decode cX9_close 221 = .ok (.goto (-62), 3) := by decide +kernel
theorem dX9_close_224 : decode cX9_close 224 = .ok (.iload_n 1, 1) := by decide +kernel
theorem dX9_close_225 : decode cX9_close 225 = .ok (.ireturn, 1) := by decide +kernel
theorem dX9_remove_0 : decode cX9_remove 0 = .ok (.aload_n 0, 1) := by decide +kernel
theorem dX9_remove_1 : decode cX9_remove 1 = .ok (.iload_n 1, 1) := by decide +kernel
theorem dX9_remove_2 : decode cX9_remove 2 = .ok (.invokevirtual 130, 3) := by decide +kernel
theorem dX9_remove_5 : decode cX9_remove 5 = .ok (.ifCond .eq 29, 3) := by decide +kernel
theorem dX9_remove_8 : decode cX9_remove 8 = .ok (.aload_n 0, 1) := by decide +kernel
theorem dX9_remove_9 : decode cX9_remove 9 = .ok (.getfield 23, 3) := by decide +kernel
theorem dX9_remove_12 : decode cX9_remove 12 = .ok (.iload_n 1, 1) := by decide +kernel
theorem dX9_remove_13 : decode cX9_remove 13 = .ok (.caload, 1) := by decide +kernel
theorem dX9_remove_14 : decode cX9_remove 14 = .ok (.bipush 98, 2) := by decide +kernel
theorem dX9_remove_16 : decode cX9_remove 16 = .ok (.if_icmp .eq 14, 3) := by decide +kernel
theorem dX9_remove_19 : decode cX9_remove 19 = .ok (.aload_n 0, 1) := by decide +kernel
theorem dX9_remove_20 : decode cX9_remove 20 = .ok (.getfield 23, 3) := by decide +kernel
theorem dX9_remove_23 : decode cX9_remove 23 = .ok (.iload_n 1, 1) := by decide +kernel
theorem dX9_remove_24 : decode cX9_remove 24 = .ok (.caload, 1) := by decide +kernel
theorem dX9_remove_25 : decode cX9_remove 25 = .ok (.bipush 115, 2) := by decide +kernel
theorem dX9_remove_27 : decode cX9_remove 27 = .ok (.if_icmp .ne 7, 3) := by decide +kernel
theorem dX9_remove_30 : decode cX9_remove 30 = .ok (.iconst 1, 1) := by decide +kernel
theorem dX9_remove_31 : decode cX9_remove 31 = .ok (.goto 4, 3) := by decide +kernel
theorem dX9_remove_34 : decode cX9_remove 34 = .ok (.iconst 0, 1) := by decide +kernel
theorem dX9_remove_35 : decode cX9_remove 35 = .ok (.istore_n 2, 1) := by decide +kernel
theorem dX9_remove_36 : decode cX9_remove 36 = .ok (.aload_n 0, 1) := by decide +kernel
theorem dX9_remove_37 : decode cX9_remove 37 = .ok (.aload_n 0, 1) := by decide +kernel
theorem dX9_remove_38 : decode cX9_remove 38 = .ok (.iload_n 1, 1) := by decide +kernel
theorem dX9_remove_39 : decode cX9_remove 39 = .ok (.invokevirtual 130, 3) := by decide +kernel
theorem dX9_remove_42 : decode cX9_remove 42 = .ok (.ifCond .ne 7, 3) := by decide +kernel
theorem dX9_remove_45 : decode cX9_remove 45 = .ok (.iconst 1, 1) := by decide +kernel
theorem dX9_remove_46 : decode cX9_remove 46 = .ok (.goto 12, 3) := by decide +kernel
theorem dX9_remove_49 : decode cX9_remove 49 = .ok (.iload_n 2, 1) := by decide +kernel
theorem dX9_remove_50 : decode cX9_remove 50 = .ok (.ifCond .ne 7, 3) := by decide +kernel
theorem dX9_remove_53 : decode cX9_remove 53 = .ok (.iconst 2, 1) := by decide +kernel
theorem dX9_remove_54 : decode cX9_remove 54 = .ok (.goto 4, 3) := by decide +kernel
theorem dX9_remove_57 : decode cX9_remove 57 = .ok (.iconst 0, 1) := by decide +kernel
theorem dX9_remove_58 : decode cX9_remove 58 = .ok (.invokevirtual 127, 3) := by decide +kernel
theorem dX9_remove_61 : decode cX9_remove 61 = .ok (.ifCond .ne 5, 3) := by decide +kernel
theorem dX9_remove_64 : decode cX9_remove 64 = .ok (.iconst 0, 1) := by decide +kernel
theorem dX9_remove_65 : decode cX9_remove 65 = .ok (.ireturn, 1) := by decide +kernel
theorem dX9_remove_66 : decode cX9_remove 66 = .ok (.aload_n 0, 1) := by decide +kernel
theorem dX9_remove_67 : decode cX9_remove 67 = .ok (.getfield 23, 3) := by decide +kernel
theorem dX9_remove_70 : decode cX9_remove 70 = .ok (.iload_n 1, 1) := by decide +kernel
theorem dX9_remove_71 : decode cX9_remove 71 = .ok (.caload, 1) := by decide +kernel
theorem dX9_remove_72 : decode cX9_remove 72 = .ok (.istore_n 3, 1) := by decide +kernel
theorem dX9_remove_73 : decode cX9_remove 73 = .ok (.aload_n 0, 1) := by decide +kernel
theorem dX9_remove_74 : decode cX9_remove 74 = .ok (.getfield 23, 3) := by decide +kernel
theorem dX9_remove_77 : decode cX9_remove 77 = .ok (.iload_n 1, 1) := by decide +kernel
theorem dX9_remove_78 : decode cX9_remove 78 = .ok (.bipush 114, 2) := by decide +kernel
theorem dX9_remove_80 : decode cX9_remove 80 = .ok (.castore, 1) := by decide +kernel
theorem dX9_remove_81 : decode cX9_remove 81 = .ok (.iload_n 3, 1) := by decide +kernel
theorem dX9_remove_82 : decode cX9_remove 82 = .ok (.ireturn, 1) := by decide +kernel
theorem dX9_state_0 : decode cX9_state 0 = .ok (.aload_n 0, 1) := by decide +kernel
theorem dX9_state_1 : decode cX9_state 1 = .ok (.aload_n 0, 1) := by decide +kernel
theorem dX9_state_2 : decode cX9_state 2 = .ok (.iload_n 1, 1) := by decide +kernel
theorem dX9_state_3 : decode cX9_state 3 = .ok (.invokevirtual 130, 3) := by decide +kernel
theorem dX9_state_6 : decode cX9_state 6 = .ok (.ifCond .eq 7, 3) := by decide +kernel
theorem dX9_state_9 : decode cX9_state 9 = .ok (.iconst 0, 1) := by decide +kernel
theorem dX9_state_10 : decode cX9_state 10 = .ok (.goto 4, 3) := by decide +kernel
theorem dX9_state_13 : decode cX9_state 13 = .ok (.iconst 1, 1) := by decide +kernel
theorem dX9_state_14 : decode cX9_state 14 = .ok (.invokevirtual 127, 3) := by decide +kernel
theorem dX9_state_17 : decode cX9_state 17 = .ok (.ifCond .eq 12, 3) := by decide +kernel
theorem dX9_state_20 : decode cX9_state 20 = .ok (.aload_n 0, 1) := by decide +kernel
theorem dX9_state_21 : decode cX9_state 21 = .ok (.getfield 23, 3) := by decide +kernel
theorem dX9_state_24 : decode cX9_state 24 = .ok (.iload_n 1, 1) := by decide +kernel
theorem dX9_state_25 : decode cX9_state 25 = .ok (.caload, 1) := by decide +kernel
theorem dX9_state_26 : decode cX9_state 26 = .ok (.goto 4, 3) := by decide +kernel
theorem dX9_state_29 : decode cX9_state 29 = .ok (.iconst 0, 1) := by decide +kernel
theorem dX9_state_30 : decode cX9_state 30 = .ok (.ireturn, 1) := by decide +kernel
theorem dX9_length_0 : decode cX9_length 0 = .ok (.aload_n 0, 1) := by decide +kernel
theorem dX9_length_1 : decode cX9_length 1 = .ok (.aload_n 0, 1) := by decide +kernel
theorem dX9_length_2 : decode cX9_length 2 = .ok (.iload_n 1, 1) := by decide +kernel
theorem dX9_length_3 : decode cX9_length 3 = .ok (.invokevirtual 130, 3) := by decide +kernel
theorem dX9_length_6 : decode cX9_length 6 = .ok (.ifCond .eq 7, 3) := by decide +kernel
theorem dX9_length_9 : decode cX9_length 9 = .ok (.iconst 0, 1) := by decide +kernel
theorem dX9_length_10 : decode cX9_length 10 = .ok (.goto 4, 3) := by decide +kernel
theorem dX9_length_13 : decode cX9_length 13 = .ok (.iconst 1, 1) := by decide +kernel
theorem dX9_length_14 : decode cX9_length 14 = .ok (.invokevirtual 127, 3) := by decide +kernel
theorem dX9_length_17 : decode cX9_length 17 = .ok (.ifCond .eq 12, 3) := by decide +kernel
theorem dX9_length_20 : decode cX9_length 20 = .ok (.aload_n 0, 1) := by decide +kernel
theorem dX9_length_21 : decode cX9_length 21 = .ok (.getfield 35, 3) := by decide +kernel
theorem dX9_length_24 : decode cX9_length 24 = .ok (.iload_n 1, 1) := by decide +kernel
theorem dX9_length_25 : decode cX9_length 25 = .ok (.iaload, 1) := by decide +kernel
theorem dX9_length_26 : decode cX9_length 26 = .ok (.goto 4, 3) := by decide +kernel
theorem dX9_length_29 : decode cX9_length 29 = .ok (.iconst 0, 1) := by decide +kernel
theorem dX9_length_30 : decode cX9_length 30 = .ok (.ireturn, 1) := by decide +kernel
theorem dX9_standingAt_0 : decode cX9_standingAt 0 = .ok (.iconst 0, 1) := by decide +kernel
theorem dX9_standingAt_1 : decode cX9_standingAt 1 = .ok (.istore 4, 2) := by decide +kernel
theorem dX9_standingAt_3 : decode cX9_standingAt 3 = .ok (.bipush 96, 2) := by decide +kernel
theorem dX9_standingAt_5 : decode cX9_standingAt 5 = .ok (.iload_n 1, 1) := by decide +kernel
theorem dX9_standingAt_6 : decode cX9_standingAt 6 = .ok (.imul, 1) := by decide +kernel
theorem dX9_standingAt_7 : decode cX9_standingAt 7 = .ok (.istore 5, 2) := by decide +kernel
theorem dX9_standingAt_9 : decode cX9_standingAt 9 = .ok (.iload 5, 2) := by decide +kernel
theorem dX9_standingAt_11 : decode cX9_standingAt 11 = .ok (.bipush 96, 2) := by decide +kernel
theorem dX9_standingAt_13 : decode cX9_standingAt 13 = .ok (.iload_n 1, 1) := by decide +kernel
theorem dX9_standingAt_14 : decode cX9_standingAt 14 = .ok (.imul, 1) := by decide +kernel
theorem dX9_standingAt_15 : decode cX9_standingAt 15 = .ok (.aload_n 0, 1) := by decide +kernel
theorem dX9_standingAt_16 : decode cX9_standingAt 16 = .ok (.getfield 35, 3) := by decide +kernel
theorem dX9_standingAt_19 : decode cX9_standingAt 19 = .ok (.iload_n 1, 1) := by decide +kernel
theorem dX9_standingAt_20 : decode cX9_standingAt 20 = .ok (.iaload, 1) := by decide +kernel
theorem dX9_standingAt_21 : decode cX9_standingAt 21 = .ok (.iadd, 1) := by decide +kernel
theorem dX9_standingAt_22 : decode cX9_standingAt 22 = .ok (.if_icmp .ge 41, 3) := by decide +kernel
theorem dX9_standingAt_25 : decode cX9_standingAt 25 = .ok (.iload 4, 2) := by decide +kernel
theorem dX9_standingAt_27 : decode cX9_standingAt 27 = .ok (.aload_n 0, 1) := by decide +kernel
theorem dX9_standingAt_28 : decode cX9_standingAt 28 = .ok (.getfield 41, 3) := by decide +kernel
theorem dX9_standingAt_31 : decode cX9_standingAt 31 = .ok (.iload 5, 2) := by decide +kernel
theorem dX9_standingAt_33 : decode cX9_standingAt 33 = .ok (.iaload, 1) := by decide +kernel
theorem dX9_standingAt_34 : decode cX9_standingAt 34 = .ok (.iload_n 2, 1) := by decide +kernel
theorem dX9_standingAt_35 : decode cX9_standingAt 35 = .ok (.if_icmp .ne 18, 3) := by decide +kernel
theorem dX9_standingAt_38 : decode cX9_standingAt 38 = .ok (.aload_n 0, 1) := by decide +kernel
theorem dX9_standingAt_39 : decode cX9_standingAt 39 = .ok (.getfield 38, 3) := by decide +kernel
theorem dX9_standingAt_42 : decode cX9_standingAt 42 = .ok (.iload 5, 2) := by decide +kernel
theorem dX9_standingAt_44 : decode cX9_standingAt 44 = .ok (.iaload, 1) := by decide +kernel
theorem dX9_standingAt_45 : decode cX9_standingAt 45 = .ok (.iload_n 3, 1) := by decide +kernel
theorem dX9_standingAt_46 : decode cX9_standingAt 46 = .ok (.if_icmp .ne 7, 3) := by decide +kernel
theorem dX9_standingAt_49 : decode cX9_standingAt 49 = .ok (.iconst 1, 1) := by decide +kernel
theorem dX9_standingAt_50 : decode cX9_standingAt 50 = .ok (.goto 4, 3) := by decide +kernel
theorem dX9_standingAt_53 : decode cX9_standingAt 53 = .ok (.iconst 0, 1) := by decide +kernel
theorem dX9_standingAt_54 : decode cX9_standingAt 54 = .ok (.iadd, 1) := by decide +kernel
theorem dX9_standingAt_55 : decode cX9_standingAt 55 = .ok (.istore 4, 2) := by decide +kernel
theorem dX9_standingAt_57 : decode cX9_standingAt 57 = .ok (.iinc 5 1, 3) := by decide +kernel
theorem dX9_standingAt_60 : decode cX9_standingAt 60 = .ok (.goto (-51), 3) := by decide +kernel
theorem dX9_standingAt_63 : decode cX9_standingAt 63 = .ok (.iload 4, 2) := by decide +kernel
theorem dX9_standingAt_65 : decode cX9_standingAt 65 = .ok (.ireturn, 1) := by decide +kernel
theorem dX9_standing_0 : decode cX9_standing 0 = .ok (.aload_n 0, 1) := by decide +kernel
theorem dX9_standing_1 : decode cX9_standing 1 = .ok (.aload_n 0, 1) := by decide +kernel
theorem dX9_standing_2 : decode cX9_standing 2 = .ok (.iload_n 1, 1) := by decide +kernel
theorem dX9_standing_3 : decode cX9_standing 3 = .ok (.invokevirtual 130, 3) := by decide +kernel
theorem dX9_standing_6 : decode cX9_standing 6 = .ok (.ifCond .eq 7, 3) := by decide +kernel
theorem dX9_standing_9 : decode cX9_standing 9 = .ok (.iconst 0, 1) := by decide +kernel
theorem dX9_standing_10 : decode cX9_standing 10 = .ok (.goto 4, 3) := by decide +kernel
theorem dX9_standing_13 : decode cX9_standing 13 = .ok (.iconst 1, 1) := by decide +kernel
theorem dX9_standing_14 : decode cX9_standing 14 = .ok (.invokevirtual 127, 3) := by decide +kernel
theorem dX9_standing_17 : decode cX9_standing 17 = .ok (.ifCond .eq 13, 3) := by decide +kernel
theorem dX9_standing_20 : decode cX9_standing 20 = .ok (.aload_n 0, 1) := by decide +kernel
theorem dX9_standing_21 : decode cX9_standing 21 = .ok (.iload_n 1, 1) := by decide +kernel
theorem dX9_standing_22 : decode cX9_standing 22 = .ok (.iload_n 2, 1) := by decide +kernel
theorem dX9_standing_23 : decode cX9_standing 23 = .ok (.iload_n 3, 1) := by decide +kernel
theorem dX9_standing_24 : decode cX9_standing 24 = .ok (.invokevirtual 173, 3) := by decide +kernel
theorem dX9_standing_27 : decode cX9_standing 27 = .ok (.goto 4, 3) := by decide +kernel
theorem dX9_standing_30 : decode cX9_standing 30 = .ok (.iconst 0, 1) := by decide +kernel
theorem dX9_standing_31 : decode cX9_standing 31 = .ok (.ireturn, 1) := by decide +kernel
theorem dX9_writes_0 : decode cX9_writes 0 = .ok (.iconst 0, 1) := by decide +kernel
theorem dX9_writes_1 : decode cX9_writes 1 = .ok (.istore_n 1, 1) := by decide +kernel
theorem dX9_writes_2 : decode cX9_writes 2 = .ok (.iconst 0, 1) := by decide +kernel
theorem dX9_writes_3 : decode cX9_writes 3 = .ok (.istore_n 2, 1) := by decide +kernel
theorem dX9_writes_4 : decode cX9_writes 4 = .ok (.iload_n 2, 1) := by decide +kernel
theorem dX9_writes_5 : decode cX9_writes 5 = .ok (.aload_n 0, 1) := by decide +kernel
theorem dX9_writes_6 : decode cX9_writes 6 = .ok (.getfield 117, 3) := by decide +kernel
theorem dX9_writes_9 : decode cX9_writes 9 = .ok (.if_icmp .ge 41, 3) := by decide +kernel
theorem dX9_writes_12 : decode cX9_writes 12 = .ok (.aload_n 0, 1) := by decide +kernel
theorem dX9_writes_13 : decode cX9_writes 13 = .ok (.getfield 23, 3) := by decide +kernel
theorem dX9_writes_16 : decode cX9_writes 16 = .ok (.iload_n 2, 1) := by decide +kernel
theorem dX9_writes_17 : decode cX9_writes 17 = .ok (.caload, 1) := by decide +kernel
theorem dX9_writes_18 : decode cX9_writes 18 = .ok (.bipush 98, 2) := by decide +kernel
theorem dX9_writes_20 : decode cX9_writes 20 = .ok (.if_icmp .ne 24, 3) := by decide +kernel
theorem dX9_writes_23 : decode cX9_writes 23 = .ok (.aload_n 0, 1) := by decide +kernel
theorem dX9_writes_24 : decode cX9_writes 24 = .ok (.getfield 23, 3) := by decide +kernel
theorem dX9_writes_27 : decode cX9_writes 27 = .ok (.iload_n 2, 1) := by decide +kernel
theorem dX9_writes_28 : decode cX9_writes 28 = .ok (.bipush 115, 2) := by decide +kernel
theorem dX9_writes_30 : decode cX9_writes 30 = .ok (.castore, 1) := by decide +kernel
theorem dX9_writes_31 : decode cX9_writes 31 = .ok (.aload_n 0, 1) := by decide +kernel
theorem dX9_writes_32 : decode cX9_writes 32 = .ok (.getfield 47, 3) := by decide +kernel
theorem dX9_writes_35 : decode cX9_writes 35 = .ok (.iload_n 2, 1) := by decide +kernel
theorem dX9_writes_36 : decode cX9_writes 36 = .ok (.aload_n 0, 1) := by decide +kernel
theorem dX9_writes_37 : decode cX9_writes 37 = .ok (.getfield 177, 3) := by decide +kernel
theorem dX9_writes_40 : decode cX9_writes 40 = .ok (.iastore, 1) := by decide +kernel
theorem dX9_writes_41 : decode cX9_writes 41 = .ok (.iinc 1 1, 3) := by decide +kernel
theorem dX9_writes_44 : decode cX9_writes 44 = .ok (.iinc 2 1, 3) := by decide +kernel
theorem dX9_writes_47 : decode cX9_writes 47 = .ok (.goto (-43), 3) := by decide +kernel
theorem dX9_writes_50 : decode cX9_writes 50 = .ok (.aload_n 0, 1) := by decide +kernel
theorem dX9_writes_51 : decode cX9_writes 51 = .ok (.dup, 1) := by decide +kernel
theorem dX9_writes_52 : decode cX9_writes 52 = .ok (.getfield 177, 3) := by decide +kernel
theorem dX9_writes_55 : decode cX9_writes 55 = .ok (.iload_n 1, 1) := by decide +kernel
theorem dX9_writes_56 : decode cX9_writes 56 = .ok (.ifCond .le 7, 3) := by decide +kernel
theorem dX9_writes_59 : decode cX9_writes 59 = .ok (.iconst 1, 1) := by decide +kernel
theorem dX9_writes_60 : decode cX9_writes 60 = .ok (.goto 4, 3) := by decide +kernel
theorem dX9_writes_63 : decode cX9_writes 63 = .ok (.iconst 0, 1) := by decide +kernel
theorem dX9_writes_64 : decode cX9_writes 64 = .ok (.iadd, 1) := by decide +kernel
theorem dX9_writes_65 : decode cX9_writes 65 = .ok (.putfield 177, 3) := by decide +kernel
theorem dX9_writes_68 : decode cX9_writes 68 = .ok (.iload_n 1, 1) := by decide +kernel
theorem dX9_writes_69 : decode cX9_writes 69 = .ok (.ireturn, 1) := by decide +kernel
theorem dX9_write_0 : decode cX9_write 0 = .ok (.aload_n 0, 1) := by decide +kernel
theorem dX9_write_1 : decode cX9_write 1 = .ok (.iconst 0, 1) := by decide +kernel
theorem dX9_write_2 : decode cX9_write 2 = .ok (.putfield 109, 3) := by decide +kernel
theorem dX9_write_5 : decode cX9_write 5 = .ok (.aload_n 0, 1) := by decide +kernel
theorem dX9_write_6 : decode cX9_write 6 = .ok (.invokevirtual 180, 3) := by decide +kernel
theorem dX9_write_9 : decode cX9_write 9 = .ok (.ireturn, 1) := by decide +kernel
theorem dX9_segments_0 : decode cX9_segments 0 = .ok (.aload_n 0, 1) := by decide +kernel
theorem dX9_segments_1 : decode cX9_segments 1 = .ok (.iconst 0, 1) := by decide +kernel
theorem dX9_segments_2 : decode cX9_segments 2 = .ok (.putfield 109, 3) := by decide +kernel
theorem dX9_segments_5 : decode cX9_segments 5 = .ok (.aload_n 0, 1) := by decide +kernel
theorem dX9_segments_6 : decode cX9_segments 6 = .ok (.getfield 177, 3) := by decide +kernel
theorem dX9_segments_9 : decode cX9_segments 9 = .ok (.ireturn, 1) := by decide +kernel
theorem dX9_sizeOf_0 : decode cX9_sizeOf 0 = .ok (.iconst 0, 1) := by decide +kernel
theorem dX9_sizeOf_1 : decode cX9_sizeOf 1 = .ok (.istore_n 2, 1) := by decide +kernel
theorem dX9_sizeOf_2 : decode cX9_sizeOf 2 = .ok (.iconst 0, 1) := by decide +kernel
theorem dX9_sizeOf_3 : decode cX9_sizeOf 3 = .ok (.istore_n 3, 1) := by decide +kernel
theorem dX9_sizeOf_4 : decode cX9_sizeOf 4 = .ok (.iload_n 3, 1) := by decide +kernel
theorem dX9_sizeOf_5 : decode cX9_sizeOf 5 = .ok (.aload_n 0, 1) := by decide +kernel
theorem dX9_sizeOf_6 : decode cX9_sizeOf 6 = .ok (.getfield 117, 3) := by decide +kernel
theorem dX9_sizeOf_9 : decode cX9_sizeOf 9 = .ok (.if_icmp .ge 27, 3) := by decide +kernel
theorem dX9_sizeOf_12 : decode cX9_sizeOf 12 = .ok (.iload_n 2, 1) := by decide +kernel
theorem dX9_sizeOf_13 : decode cX9_sizeOf 13 = .ok (.aload_n 0, 1) := by decide +kernel
theorem dX9_sizeOf_14 : decode cX9_sizeOf 14 = .ok (.getfield 47, 3) := by decide +kernel
theorem dX9_sizeOf_17 : decode cX9_sizeOf 17 = .ok (.iload_n 3, 1) := by decide +kernel
theorem dX9_sizeOf_18 : decode cX9_sizeOf 18 = .ok (.iaload, 1) := by decide +kernel
theorem dX9_sizeOf_19 : decode cX9_sizeOf 19 = .ok (.iload_n 1, 1) := by decide +kernel
theorem dX9_sizeOf_20 : decode cX9_sizeOf 20 = .ok (.if_icmp .ne 7, 3) := by decide +kernel
theorem dX9_sizeOf_23 : decode cX9_sizeOf 23 = .ok (.iconst 1, 1) := by decide +kernel
theorem dX9_sizeOf_24 : decode cX9_sizeOf 24 = .ok (.goto 4, 3) := by decide +kernel
theorem dX9_sizeOf_27 : decode cX9_sizeOf 27 = .ok (.iconst 0, 1) := by decide +kernel
theorem dX9_sizeOf_28 : decode cX9_sizeOf 28 = .ok (.iadd, 1) := by decide +kernel
theorem dX9_sizeOf_29 : decode cX9_sizeOf 29 = .ok (.istore_n 2, 1) := by decide +kernel
theorem dX9_sizeOf_30 : decode cX9_sizeOf 30 = .ok (.iinc 3 1, 3) := by decide +kernel
theorem dX9_sizeOf_33 : decode cX9_sizeOf 33 = .ok (.goto (-29), 3) := by decide +kernel
theorem dX9_sizeOf_36 : decode cX9_sizeOf 36 = .ok (.iload_n 2, 1) := by decide +kernel
theorem dX9_sizeOf_37 : decode cX9_sizeOf 37 = .ok (.ireturn, 1) := by decide +kernel
theorem dX9_size_0 : decode cX9_size 0 = .ok (.aload_n 0, 1) := by decide +kernel
theorem dX9_size_1 : decode cX9_size 1 = .ok (.iload_n 1, 1) := by decide +kernel
theorem dX9_size_2 : decode cX9_size 2 = .ok (.iconst 0, 1) := by decide +kernel
theorem dX9_size_3 : decode cX9_size 3 = .ok (.aload_n 0, 1) := by decide +kernel
theorem dX9_size_4 : decode cX9_size 4 = .ok (.getfield 177, 3) := by decide +kernel
theorem dX9_size_7 : decode cX9_size 7 = .ok (.iconst 1, 1) := by decide +kernel
theorem dX9_size_8 : decode cX9_size 8 = .ok (.isub, 1) := by decide +kernel
theorem dX9_size_9 : decode cX9_size 9 = .ok (.invokestatic 113, 3) := by decide +kernel
theorem dX9_size_12 : decode cX9_size 12 = .ok (.ifCond .eq 7, 3) := by decide +kernel
theorem dX9_size_15 : decode cX9_size 15 = .ok (.iconst 0, 1) := by decide +kernel
theorem dX9_size_16 : decode cX9_size 16 = .ok (.goto 4, 3) := by decide +kernel
theorem dX9_size_19 : decode cX9_size 19 = .ok (.iconst 1, 1) := by decide +kernel
theorem dX9_size_20 : decode cX9_size 20 = .ok (.invokevirtual 127, 3) := by decide +kernel
theorem dX9_size_23 : decode cX9_size 23 = .ok (.ifCond .eq 11, 3) := by decide +kernel
theorem dX9_size_26 : decode cX9_size 26 = .ok (.aload_n 0, 1) := by decide +kernel
theorem dX9_size_27 : decode cX9_size 27 = .ok (.iload_n 1, 1) := by decide +kernel
theorem dX9_size_28 : decode cX9_size 28 = .ok (.invokevirtual 184, 3) := by decide +kernel
theorem dX9_size_31 : decode cX9_size 31 = .ok (.goto 4, 3) := by decide +kernel
theorem dX9_size_34 : decode cX9_size 34 = .ok (.iconst 0, 1) := by decide +kernel
theorem dX9_size_35 : decode cX9_size 35 = .ok (.ireturn, 1) := by decide +kernel
theorem dX9_merge_0 : decode cX9_merge 0 = .ok (.aload_n 0, 1) := by decide +kernel
theorem dX9_merge_1 : decode cX9_merge 1 = .ok (.iload_n 1, 1) := by decide +kernel
theorem dX9_merge_2 : decode cX9_merge 2 = .ok (.iconst 0, 1) := by decide +kernel
theorem dX9_merge_3 : decode cX9_merge 3 = .ok (.aload_n 0, 1) := by decide +kernel
theorem dX9_merge_4 : decode cX9_merge 4 = .ok (.getfield 177, 3) := by decide +kernel
theorem dX9_merge_7 : decode cX9_merge 7 = .ok (.iconst 2, 1) := by decide +kernel
theorem dX9_merge_8 : decode cX9_merge 8 = .ok (.isub, 1) := by decide +kernel
theorem dX9_merge_9 : decode cX9_merge 9 = .ok (.invokestatic 113, 3) := by decide +kernel
theorem dX9_merge_12 : decode cX9_merge 12 = .ok (.ifCond .eq 7, 3) := by decide +kernel
theorem dX9_merge_15 : decode cX9_merge 15 = .ok (.iconst 0, 1) := by decide +kernel
theorem dX9_merge_16 : decode cX9_merge 16 = .ok (.goto 4, 3) := by decide +kernel
theorem dX9_merge_19 : decode cX9_merge 19 = .ok (.iconst 1, 1) := by decide +kernel
theorem dX9_merge_20 : decode cX9_merge 20 = .ok (.invokevirtual 127, 3) := by decide +kernel
theorem dX9_merge_23 : decode cX9_merge 23 = .ok (.ifCond .ne 5, 3) := by decide +kernel
theorem dX9_merge_26 : decode cX9_merge 26 = .ok (.iconst 0, 1) := by decide +kernel
theorem dX9_merge_27 : decode cX9_merge 27 = .ok (.ireturn, 1) := by decide +kernel
theorem dX9_merge_28 : decode cX9_merge 28 = .ok (.iconst 0, 1) := by decide +kernel
theorem dX9_merge_29 : decode cX9_merge 29 = .ok (.istore_n 2, 1) := by decide +kernel
theorem dX9_merge_30 : decode cX9_merge 30 = .ok (.iconst 0, 1) := by decide +kernel
theorem dX9_merge_31 : decode cX9_merge 31 = .ok (.istore_n 3, 1) := by decide +kernel
theorem dX9_merge_32 : decode cX9_merge 32 = .ok (.iload_n 3, 1) := by decide +kernel
theorem dX9_merge_33 : decode cX9_merge 33 = .ok (.aload_n 0, 1) := by decide +kernel
theorem dX9_merge_34 : decode cX9_merge 34 = .ok (.getfield 117, 3) := by decide +kernel
theorem dX9_merge_37 : decode cX9_merge 37 = .ok (.if_icmp .ge 125, 3) := by decide +kernel
theorem dX9_merge_40 : decode cX9_merge 40 = .ok (.aload_n 0, 1) := by decide +kernel
theorem dX9_merge_41 : decode cX9_merge 41 = .ok (.getfield 47, 3) := by decide +kernel
theorem dX9_merge_44 : decode cX9_merge 44 = .ok (.iload_n 3, 1) := by decide +kernel
theorem dX9_merge_45 : decode cX9_merge 45 = .ok (.iaload, 1) := by decide +kernel
theorem dX9_merge_46 : decode cX9_merge 46 = .ok (.iload_n 1, 1) := by decide +kernel
theorem dX9_merge_47 : decode cX9_merge 47 = .ok (.if_icmp .eq 15, 3) := by decide +kernel
theorem dX9_merge_50 : decode cX9_merge 50 = .ok (.aload_n 0, 1) := by decide +kernel
theorem dX9_merge_51 : decode cX9_merge 51 = .ok (.getfield 47, 3) := by decide +kernel
theorem dX9_merge_54 : decode cX9_merge 54 = .ok (.iload_n 3, 1) := by decide +kernel
theorem dX9_merge_55 : decode cX9_merge 55 = .ok (.iaload, 1) := by decide +kernel
theorem dX9_merge_56 : decode cX9_merge 56 = .ok (.iload_n 1, 1) := by decide +kernel
theorem dX9_merge_57 : decode cX9_merge 57 = .ok (.iconst 1, 1) := by decide +kernel
theorem dX9_merge_58 : decode cX9_merge 58 = .ok (.iadd, 1) := by decide +kernel
theorem dX9_merge_59 : decode cX9_merge 59 = .ok (.if_icmp .ne 7, 3) := by decide +kernel
theorem dX9_merge_62 : decode cX9_merge 62 = .ok (.iconst 1, 1) := by decide +kernel
theorem dX9_merge_63 : decode cX9_merge 63 = .ok (.goto 4, 3) := by decide +kernel
theorem dX9_merge_66 : decode cX9_merge 66 = .ok (.iconst 0, 1) := by decide +kernel
theorem dX9_merge_67 : decode cX9_merge 67 = .ok (.istore 4, 2) := by decide +kernel
theorem dX9_merge_69 : decode cX9_merge 69 = .ok (.iload 4, 2) := by decide +kernel
theorem dX9_merge_71 : decode cX9_merge 71 = .ok (.ifCond .eq 18, 3) := by decide +kernel
theorem dX9_merge_74 : decode cX9_merge 74 = .ok (.aload_n 0, 1) := by decide +kernel
theorem dX9_merge_75 : decode cX9_merge 75 = .ok (.getfield 23, 3) := by decide +kernel
theorem dX9_merge_78 : decode cX9_merge 78 = .ok (.iload_n 3, 1) := by decide +kernel
theorem dX9_merge_79 : decode cX9_merge 79 = .ok (.caload, 1) := by decide +kernel
theorem dX9_merge_80 : decode cX9_merge 80 = .ok (.bipush 114, 2) := by decide +kernel
theorem dX9_merge_82 : decode cX9_merge 82 = .ok (.if_icmp .ne 7, 3) := by decide +kernel
theorem dX9_merge_85 : decode cX9_merge 85 = .ok (.iconst 1, 1) := by decide +kernel
theorem dX9_merge_86 : decode cX9_merge 86 = .ok (.goto 4, 3) := by decide +kernel
theorem dX9_merge_89 : decode cX9_merge 89 = .ok (.iconst 0, 1) := by decide +kernel
theorem dX9_merge_90 : decode cX9_merge 90 = .ok (.istore 5, 2) := by decide +kernel
theorem dX9_merge_92 : decode cX9_merge 92 = .ok (.aload_n 0, 1) := by decide +kernel
theorem dX9_merge_93 : decode cX9_merge 93 = .ok (.getfield 47, 3) := by decide +kernel
theorem dX9_merge_96 : decode cX9_merge 96 = .ok (.iload_n 3, 1) := by decide +kernel
theorem dX9_merge_97 : decode cX9_merge 97 = .ok (.iload 5, 2) := by decide +kernel
theorem dX9_merge_99 : decode cX9_merge 99 = .ok (.ifCond .eq 7, 3) := by decide +kernel
theorem dX9_merge_102 : decode cX9_merge 102 = .ok (.iconst (-1), 1) := by decide +kernel
theorem dX9_merge_103 : decode cX9_merge 103 = .ok (.goto 39, 3) := by decide +kernel
theorem dX9_merge_106 : decode cX9_merge 106 = .ok (.iload 4, 2) := by decide +kernel
theorem dX9_merge_108 : decode cX9_merge 108 = .ok (.ifCond .eq 7, 3) := by decide +kernel
theorem dX9_merge_111 : decode cX9_merge 111 = .ok (.iload_n 1, 1) := by decide +kernel
theorem dX9_merge_112 : decode cX9_merge 112 = .ok (.goto 30, 3) := by decide +kernel
theorem dX9_merge_115 : decode cX9_merge 115 = .ok (.aload_n 0, 1) := by decide +kernel
theorem dX9_merge_116 : decode cX9_merge 116 = .ok (.getfield 47, 3) := by decide +kernel
theorem dX9_merge_119 : decode cX9_merge 119 = .ok (.iload_n 3, 1) := by decide +kernel
theorem dX9_merge_120 : decode cX9_merge 120 = .ok (.iaload, 1) := by decide +kernel
theorem dX9_merge_121 : decode cX9_merge 121 = .ok (.iload_n 1, 1) := by decide +kernel
theorem dX9_merge_122 : decode cX9_merge 122 = .ok (.if_icmp .le 14, 3) := by decide +kernel
theorem dX9_merge_125 : decode cX9_merge 125 = .ok (.aload_n 0, 1) := by decide +kernel
theorem dX9_merge_126 : decode cX9_merge 126 = .ok (.getfield 47, 3) := by decide +kernel
theorem dX9_merge_129 : decode cX9_merge 129 = .ok (.iload_n 3, 1) := by decide +kernel
theorem dX9_merge_130 : decode cX9_merge 130 = .ok (.iaload, 1) := by decide +kernel
theorem dX9_merge_131 : decode cX9_merge 131 = .ok (.iconst 1, 1) := by decide +kernel
theorem dX9_merge_132 : decode cX9_merge 132 = .ok (.isub, 1) := by decide +kernel
theorem dX9_merge_133 : decode cX9_merge 133 = .ok (.goto 9, 3) := by decide +kernel
theorem dX9_merge_136 : decode cX9_merge 136 = .ok (.aload_n 0, 1) := by decide +kernel
theorem dX9_merge_137 : decode cX9_merge 137 = .ok (.getfield 47, 3) := by decide +kernel
theorem dX9_merge_140 : decode cX9_merge 140 = .ok (.iload_n 3, 1) := by decide +kernel
theorem dX9_merge_141 : decode cX9_merge 141 = .ok (.iaload, 1) := by decide +kernel
theorem dX9_merge_142 : decode cX9_merge 142 = .ok (.iastore, 1) := by decide +kernel
theorem dX9_merge_143 : decode cX9_merge 143 = .ok (.iload_n 2, 1) := by decide +kernel
theorem dX9_merge_144 : decode cX9_merge 144 = .ok (.iload 5, 2) := by decide +kernel
theorem dX9_merge_146 : decode cX9_merge 146 = .ok (.ifCond .eq 7, 3) := by decide +kernel
theorem dX9_merge_149 : decode cX9_merge 149 = .ok (.iconst 1, 1) := by decide +kernel
theorem dX9_merge_150 : decode cX9_merge 150 = .ok (.goto 4, 3) := by decide +kernel
theorem dX9_merge_153 : decode cX9_merge 153 = .ok (.iconst 0, 1) := by decide +kernel
theorem dX9_merge_154 : decode cX9_merge 154 = .ok (.iadd, 1) := by decide +kernel
theorem dX9_merge_155 : decode cX9_merge 155 = .ok (.istore_n 2, 1) := by decide +kernel
theorem dX9_merge_156 : decode cX9_merge 156 = .ok (.iinc 3 1, 3) := by decide +kernel
theorem dX9_merge_159 : decode cX9_merge 159 = .ok (.goto (-127), 3) := by decide +kernel
theorem dX9_merge_162 : decode cX9_merge 162 = .ok (.aload_n 0, 1) := by decide +kernel
theorem dX9_merge_163 : decode cX9_merge 163 = .ok (.dup, 1) := by decide +kernel
theorem dX9_merge_164 : decode cX9_merge 164 = .ok (.getfield 177, 3) := by decide +kernel
theorem dX9_merge_167 : decode cX9_merge 167 = .ok (.iconst 1, 1) := by decide +kernel
theorem dX9_merge_168 : decode cX9_merge 168 = .ok (.isub, 1) := by decide +kernel
theorem dX9_merge_169 : decode cX9_merge 169 = .ok (.putfield 177, 3) := by decide +kernel
theorem dX9_merge_172 : decode cX9_merge 172 = .ok (.aload_n 0, 1) := by decide +kernel
theorem dX9_merge_173 : decode cX9_merge 173 = .ok (.iload_n 1, 1) := by decide +kernel
theorem dX9_merge_174 : decode cX9_merge 174 = .ok (.invokevirtual 184, 3) := by decide +kernel
theorem dX9_merge_177 : decode cX9_merge 177 = .ok (.ifCond .ne 62, 3) := by decide +kernel
theorem dX9_merge_180 : decode cX9_merge 180 = .ok (.iconst 0, 1) := by decide +kernel
theorem dX9_merge_181 : decode cX9_merge 181 = .ok (.istore_n 3, 1) := by decide +kernel
theorem dX9_merge_182 : decode cX9_merge 182 = .ok (.iload_n 3, 1) := by decide +kernel
theorem dX9_merge_183 : decode cX9_merge 183 = .ok (.aload_n 0, 1) := by decide +kernel
theorem dX9_merge_184 : decode cX9_merge 184 = .ok (.getfield 117, 3) := by decide +kernel
theorem dX9_merge_187 : decode cX9_merge 187 = .ok (.if_icmp .ge 42, 3) := by decide +kernel
theorem dX9_merge_190 : decode cX9_merge 190 = .ok (.aload_n 0, 1) := by decide +kernel
theorem dX9_merge_191 : decode cX9_merge 191 = .ok (.getfield 47, 3) := by decide +kernel
theorem dX9_merge_194 : decode cX9_merge 194 = .ok (.iload_n 3, 1) := by decide +kernel
theorem dX9_merge_195 : decode cX9_merge 195 = .ok (.aload_n 0, 1) := by decide +kernel
theorem dX9_merge_196 : decode cX9_merge 196 = .ok (.getfield 47, 3) := by decide +kernel
theorem dX9_merge_199 : decode cX9_merge 199 = .ok (.iload_n 3, 1) := by decide +kernel
theorem dX9_merge_200 : decode cX9_merge 200 = .ok (.iaload, 1) := by decide +kernel
theorem dX9_merge_201 : decode cX9_merge 201 = .ok (.iload_n 1, 1) := by decide +kernel
theorem dX9_merge_202 : decode cX9_merge 202 = .ok (.if_icmp .le 14, 3) := by decide +kernel
theorem dX9_merge_205 : decode cX9_merge 205 = .ok (.aload_n 0, 1) := by decide +kernel
theorem dX9_merge_206 : decode cX9_merge 206 = .ok (.getfield 47, 3) := by decide +kernel
theorem dX9_merge_209 : decode cX9_merge 209 = .ok (.iload_n 3, 1) := by decide +kernel
theorem dX9_merge_210 : decode cX9_merge 210 = .ok (.iaload, 1) := by decide +kernel
theorem dX9_merge_211 : decode cX9_merge 211 = .ok (.iconst 1, 1) := by decide +kernel
theorem dX9_merge_212 : decode cX9_merge 212 = .ok (.isub, 1) := by decide +kernel
theorem dX9_merge_213 : decode cX9_merge 213 = .ok (.goto 9, 3) := by decide +kernel
theorem dX9_merge_216 : decode cX9_merge 216 = .ok (.aload_n 0, 1) := by decide +kernel
theorem dX9_merge_217 : decode cX9_merge 217 = .ok (.getfield 47, 3) := by decide +kernel
theorem dX9_merge_220 : decode cX9_merge 220 = .ok (.iload_n 3, 1) := by decide +kernel
theorem dX9_merge_221 : decode cX9_merge 221 = .ok (.iaload, 1) := by decide +kernel
theorem dX9_merge_222 : decode cX9_merge 222 = .ok (.iastore, 1) := by decide +kernel
theorem dX9_merge_223 : decode cX9_merge 223 = .ok (.iinc 3 1, 3) := by decide +kernel
theorem dX9_merge_226 : decode cX9_merge 226 = .ok (.goto (-44), 3) := by decide +kernel
theorem dX9_merge_229 : decode cX9_merge 229 = .ok (.aload_n 0, 1) := by decide +kernel
theorem dX9_merge_230 : decode cX9_merge 230 = .ok (.dup, 1) := by decide +kernel
theorem dX9_merge_231 : decode cX9_merge 231 = .ok (.getfield 177, 3) := by decide +kernel
theorem dX9_merge_234 : decode cX9_merge 234 = .ok (.iconst 1, 1) := by decide +kernel
theorem dX9_merge_235 : decode cX9_merge 235 = .ok (.isub, 1) := by decide +kernel
theorem dX9_merge_236 : decode cX9_merge 236 = .ok (.putfield 177, 3) := by decide +kernel
theorem dX9_merge_239 : decode cX9_merge 239 = .ok (.iload_n 2, 1) := by decide +kernel
theorem dX9_merge_240 : decode cX9_merge 240 = .ok (.ireturn, 1) := by decide +kernel
theorem dX9_commit_0 : decode cX9_commit 0 = .ok (.aload_n 0, 1) := by decide +kernel
theorem dX9_commit_1 : decode cX9_commit 1 = .ok (.iconst 0, 1) := by decide +kernel
theorem dX9_commit_2 : decode cX9_commit 2 = .ok (.putfield 109, 3) := by decide +kernel
theorem dX9_commit_5 : decode cX9_commit 5 = .ok (.aload_n 0, 1) := by decide +kernel
theorem dX9_commit_6 : decode cX9_commit 6 = .ok (.invokevirtual 180, 3) := by decide +kernel
theorem dX9_commit_9 : decode cX9_commit 9 = .ok (.istore_n 1, 1) := by decide +kernel
theorem dX9_commit_10 : decode cX9_commit 10 = .ok (.aload_n 0, 1) := by decide +kernel
theorem dX9_commit_11 : decode cX9_commit 11 = .ok (.dup, 1) := by decide +kernel
theorem dX9_commit_12 : decode cX9_commit 12 = .ok (.getfield 188, 3) := by decide +kernel
theorem dX9_commit_15 : decode cX9_commit 15 = .ok (.iconst 1, 1) := by decide +kernel
theorem dX9_commit_16 : decode cX9_commit 16 = .ok (.iadd, 1) := by decide +kernel
theorem dX9_commit_17 : decode cX9_commit 17 = .ok (.putfield 188, 3) := by decide +kernel
theorem dX9_commit_20 : decode cX9_commit 20 = .ok (.aload_n 0, 1) := by decide +kernel
theorem dX9_commit_21 : decode cX9_commit 21 = .ok (.aload_n 0, 1) := by decide +kernel
theorem dX9_commit_22 : decode cX9_commit 22 = .ok (.getfield 117, 3) := by decide +kernel
theorem dX9_commit_25 : decode cX9_commit 25 = .ok (.putfield 191, 3) := by decide +kernel
theorem dX9_commit_28 : decode cX9_commit 28 = .ok (.aload_n 0, 1) := by decide +kernel
theorem dX9_commit_29 : decode cX9_commit 29 = .ok (.aload_n 0, 1) := by decide +kernel
theorem dX9_commit_30 : decode cX9_commit 30 = .ok (.getfield 177, 3) := by decide +kernel
theorem dX9_commit_33 : decode cX9_commit 33 = .ok (.putfield 194, 3) := by decide +kernel
theorem dX9_commit_36 : decode cX9_commit 36 = .ok (.iconst 0, 1) := by decide +kernel
theorem dX9_commit_37 : decode cX9_commit 37 = .ok (.istore_n 2, 1) := by decide +kernel
theorem dX9_commit_38 : decode cX9_commit 38 = .ok (.iload_n 2, 1) := by decide +kernel
theorem dX9_commit_39 : decode cX9_commit 39 = .ok (.aload_n 0, 1) := by decide +kernel
theorem dX9_commit_40 : decode cX9_commit 40 = .ok (.getfield 117, 3) := by decide +kernel
theorem dX9_commit_43 : decode cX9_commit 43 = .ok (.if_icmp .ge 33, 3) := by decide +kernel
theorem dX9_commit_46 : decode cX9_commit 46 = .ok (.aload_n 0, 1) := by decide +kernel
theorem dX9_commit_47 : decode cX9_commit 47 = .ok (.getfield 50, 3) := by decide +kernel
theorem dX9_commit_50 : decode cX9_commit 50 = .ok (.iload_n 2, 1) := by decide +kernel
theorem dX9_commit_51 : decode cX9_commit 51 = .ok (.aload_n 0, 1) := by decide +kernel
theorem dX9_commit_52 : decode cX9_commit 52 = .ok (.getfield 23, 3) := by decide +kernel
theorem dX9_commit_55 : decode cX9_commit 55 = .ok (.iload_n 2, 1) := by decide +kernel
theorem dX9_commit_56 : decode cX9_commit 56 = .ok (.caload, 1) := by decide +kernel
theorem dX9_commit_57 : decode cX9_commit 57 = .ok (.castore, 1) := by decide +kernel
theorem dX9_commit_58 : decode cX9_commit 58 = .ok (.aload_n 0, 1) := by decide +kernel
theorem dX9_commit_59 : decode cX9_commit 59 = .ok (.getfield 53, 3) := by decide +kernel
theorem dX9_commit_62 : decode cX9_commit 62 = .ok (.iload_n 2, 1) := by decide +kernel
theorem dX9_commit_63 : decode cX9_commit 63 = .ok (.aload_n 0, 1) := by decide +kernel
theorem dX9_commit_64 : decode cX9_commit 64 = .ok (.getfield 47, 3) := by decide +kernel
theorem dX9_commit_67 : decode cX9_commit 67 = .ok (.iload_n 2, 1) := by decide +kernel
theorem dX9_commit_68 : decode cX9_commit 68 = .ok (.iaload, 1) := by decide +kernel
theorem dX9_commit_69 : decode cX9_commit 69 = .ok (.iastore, 1) := by decide +kernel
theorem dX9_commit_70 : decode cX9_commit 70 = .ok (.iinc 2 1, 3) := by decide +kernel
theorem dX9_commit_73 : decode cX9_commit 73 = .ok (.goto (-35), 3) := by decide +kernel
theorem dX9_commit_76 : decode cX9_commit 76 = .ok (.aload_n 0, 1) := by decide +kernel
theorem dX9_commit_77 : decode cX9_commit 77 = .ok (.getfield 188, 3) := by decide +kernel
theorem dX9_commit_80 : decode cX9_commit 80 = .ok (.ireturn, 1) := by decide +kernel
theorem dX9_isThere_0 : decode cX9_isThere 0 = .ok (.aload_n 0, 1) := by decide +kernel
theorem dX9_isThere_1 : decode cX9_isThere 1 = .ok (.getfield 23, 3) := by decide +kernel
theorem dX9_isThere_4 : decode cX9_isThere 4 = .ok (.iload_n 1, 1) := by decide +kernel
theorem dX9_isThere_5 : decode cX9_isThere 5 = .ok (.caload, 1) := by decide +kernel
theorem dX9_isThere_6 : decode cX9_isThere 6 = .ok (.bipush 98, 2) := by decide +kernel
theorem dX9_isThere_8 : decode cX9_isThere 8 = .ok (.if_icmp .eq 14, 3) := by decide +kernel
theorem dX9_isThere_11 : decode cX9_isThere 11 = .ok (.aload_n 0, 1) := by decide +kernel
theorem dX9_isThere_12 : decode cX9_isThere 12 = .ok (.getfield 23, 3) := by decide +kernel
theorem dX9_isThere_15 : decode cX9_isThere 15 = .ok (.iload_n 1, 1) := by decide +kernel
theorem dX9_isThere_16 : decode cX9_isThere 16 = .ok (.caload, 1) := by decide +kernel
theorem dX9_isThere_17 : decode cX9_isThere 17 = .ok (.bipush 115, 2) := by decide +kernel
theorem dX9_isThere_19 : decode cX9_isThere 19 = .ok (.if_icmp .ne 7, 3) := by decide +kernel
theorem dX9_isThere_22 : decode cX9_isThere 22 = .ok (.iconst 1, 1) := by decide +kernel
theorem dX9_isThere_23 : decode cX9_isThere 23 = .ok (.goto 4, 3) := by decide +kernel
theorem dX9_isThere_26 : decode cX9_isThere 26 = .ok (.iconst 0, 1) := by decide +kernel
theorem dX9_isThere_27 : decode cX9_isThere 27 = .ok (.ireturn, 1) := by decide +kernel
theorem dX9_crash_0 : decode cX9_crash 0 = .ok (.aload_n 0, 1) := by decide +kernel
theorem dX9_crash_1 : decode cX9_crash 1 = .ok (.iconst 0, 1) := by decide +kernel
theorem dX9_crash_2 : decode cX9_crash 2 = .ok (.putfield 109, 3) := by decide +kernel
theorem dX9_crash_5 : decode cX9_crash 5 = .ok (.iconst 0, 1) := by decide +kernel
theorem dX9_crash_6 : decode cX9_crash 6 = .ok (.istore_n 1, 1) := by decide +kernel
theorem dX9_crash_7 : decode cX9_crash 7 = .ok (.iconst 0, 1) := by decide +kernel
theorem dX9_crash_8 : decode cX9_crash 8 = .ok (.istore_n 2, 1) := by decide +kernel
theorem dX9_crash_9 : decode cX9_crash 9 = .ok (.iload_n 2, 1) := by decide +kernel
theorem dX9_crash_10 : decode cX9_crash 10 = .ok (.aload_n 0, 1) := by decide +kernel
theorem dX9_crash_11 : decode cX9_crash 11 = .ok (.getfield 117, 3) := by decide +kernel
theorem dX9_crash_14 : decode cX9_crash 14 = .ok (.if_icmp .ge 81, 3) := by decide +kernel
theorem dX9_crash_17 : decode cX9_crash 17 = .ok (.aload_n 0, 1) := by decide +kernel
theorem dX9_crash_18 : decode cX9_crash 18 = .ok (.iload_n 2, 1) := by decide +kernel
theorem dX9_crash_19 : decode cX9_crash 19 = .ok (.invokevirtual 197, 3) := by decide +kernel
theorem dX9_crash_22 : decode cX9_crash 22 = .ok (.istore_n 3, 1) := by decide +kernel
theorem dX9_crash_23 : decode cX9_crash 23 = .ok (.aload_n 0, 1) := by decide +kernel
theorem dX9_crash_24 : decode cX9_crash 24 = .ok (.getfield 23, 3) := by decide +kernel
theorem dX9_crash_27 : decode cX9_crash 27 = .ok (.iload_n 2, 1) := by decide +kernel
theorem dX9_crash_28 : decode cX9_crash 28 = .ok (.iload_n 2, 1) := by decide +kernel
theorem dX9_crash_29 : decode cX9_crash 29 = .ok (.aload_n 0, 1) := by decide +kernel
theorem dX9_crash_30 : decode cX9_crash 30 = .ok (.getfield 191, 3) := by decide +kernel
theorem dX9_crash_33 : decode cX9_crash 33 = .ok (.if_icmp .ge 12, 3) := by decide +kernel
theorem dX9_crash_36 : decode cX9_crash 36 = .ok (.aload_n 0, 1) := by decide +kernel
theorem dX9_crash_37 : decode cX9_crash 37 = .ok (.getfield 50, 3) := by decide +kernel
theorem dX9_crash_40 : decode cX9_crash 40 = .ok (.iload_n 2, 1) := by decide +kernel
theorem dX9_crash_41 : decode cX9_crash 41 = .ok (.caload, 1) := by decide +kernel
theorem dX9_crash_42 : decode cX9_crash 42 = .ok (.goto 5, 3) := by decide +kernel
theorem dX9_crash_45 : decode cX9_crash 45 = .ok (.bipush 108, 2) := by decide +kernel
theorem dX9_crash_47 : decode cX9_crash 47 = .ok (.castore, 1) := by decide +kernel
theorem dX9_crash_48 : decode cX9_crash 48 = .ok (.aload_n 0, 1) := by decide +kernel
theorem dX9_crash_49 : decode cX9_crash 49 = .ok (.getfield 47, 3) := by decide +kernel
theorem dX9_crash_52 : decode cX9_crash 52 = .ok (.iload_n 2, 1) := by decide +kernel
theorem dX9_crash_53 : decode cX9_crash 53 = .ok (.iload_n 2, 1) := by decide +kernel
theorem dX9_crash_54 : decode cX9_crash 54 = .ok (.aload_n 0, 1) := by decide +kernel
theorem dX9_crash_55 : decode cX9_crash 55 = .ok (.getfield 191, 3) := by decide +kernel
theorem dX9_crash_58 : decode cX9_crash 58 = .ok (.if_icmp .ge 12, 3) := by decide +kernel
theorem dX9_crash_61 : decode cX9_crash 61 = .ok (.aload_n 0, 1) := by decide +kernel
theorem dX9_crash_62 : decode cX9_crash 62 = .ok (.getfield 53, 3) := by decide +kernel
theorem dX9_crash_65 : decode cX9_crash 65 = .ok (.iload_n 2, 1) := by decide +kernel
theorem dX9_crash_66 : decode cX9_crash 66 = .ok (.iaload, 1) := by decide +kernel
theorem dX9_crash_67 : decode cX9_crash 67 = .ok (.goto 4, 3) := by decide +kernel
theorem dX9_crash_70 : decode cX9_crash 70 = .ok (.iconst (-1), 1) := by decide +kernel
theorem dX9_crash_71 : decode cX9_crash 71 = .ok (.iastore, 1) := by decide +kernel
theorem dX9_crash_72 : decode cX9_crash 72 = .ok (.iload_n 1, 1) := by decide +kernel
theorem dX9_crash_73 : decode cX9_crash 73 = .ok (.iload_n 3, 1) := by decide +kernel
theorem dX9_crash_74 : decode cX9_crash 74 = .ok (.aload_n 0, 1) := by decide +kernel
theorem dX9_crash_75 : decode cX9_crash 75 = .ok (.iload_n 2, 1) := by decide +kernel
theorem dX9_crash_76 : decode cX9_crash 76 = .ok (.invokevirtual 197, 3) := by decide +kernel
theorem dX9_crash_79 : decode cX9_crash 79 = .ok (.if_icmp .eq 7, 3) := by decide +kernel
theorem dX9_crash_82 : decode cX9_crash 82 = .ok (.iconst 1, 1) := by decide +kernel
theorem dX9_crash_83 : decode cX9_crash 83 = .ok (.goto 4, 3) := by decide +kernel
theorem dX9_crash_86 : decode cX9_crash 86 = .ok (.iconst 0, 1) := by decide +kernel
theorem dX9_crash_87 : decode cX9_crash 87 = .ok (.iadd, 1) := by decide +kernel
theorem dX9_crash_88 : decode cX9_crash 88 = .ok (.istore_n 1, 1) := by decide +kernel
theorem dX9_crash_89 : decode cX9_crash 89 = .ok (.iinc 2 1, 3) := by decide +kernel
theorem dX9_crash_92 : decode cX9_crash 92 = .ok (.goto (-83), 3) := by decide +kernel
theorem dX9_crash_95 : decode cX9_crash 95 = .ok (.aload_n 0, 1) := by decide +kernel
theorem dX9_crash_96 : decode cX9_crash 96 = .ok (.aload_n 0, 1) := by decide +kernel
theorem dX9_crash_97 : decode cX9_crash 97 = .ok (.getfield 194, 3) := by decide +kernel
theorem dX9_crash_100 : decode cX9_crash 100 = .ok (.putfield 177, 3) := by decide +kernel
theorem dX9_crash_103 : decode cX9_crash 103 = .ok (.aload_n 0, 1) := by decide +kernel
theorem dX9_crash_104 : decode cX9_crash 104 = .ok (.iconst 0, 1) := by decide +kernel
theorem dX9_crash_105 : decode cX9_crash 105 = .ok (.putfield 133, 3) := by decide +kernel
theorem dX9_crash_108 : decode cX9_crash 108 = .ok (.aload_n 0, 1) := by decide +kernel
theorem dX9_crash_109 : decode cX9_crash 109 = .ok (.iconst 0, 1) := by decide +kernel
theorem dX9_crash_110 : decode cX9_crash 110 = .ok (.putfield 200, 3) := by decide +kernel
theorem dX9_crash_113 : decode cX9_crash 113 = .ok (.iload_n 1, 1) := by decide +kernel
theorem dX9_crash_114 : decode cX9_crash 114 = .ok (.ireturn, 1) := by decide +kernel
theorem dX9_follow_0 : decode cX9_follow 0 = .ok (.aload_n 0, 1) := by decide +kernel
theorem dX9_follow_1 : decode cX9_follow 1 = .ok (.aload_n 0, 1) := by decide +kernel
theorem dX9_follow_2 : decode cX9_follow 2 = .ok (.getfield 188, 3) := by decide +kernel
theorem dX9_follow_5 : decode cX9_follow 5 = .ok (.ifCond .ne 7, 3) := by decide +kernel
theorem dX9_follow_8 : decode cX9_follow 8 = .ok (.iconst 1, 1) := by decide +kernel
theorem dX9_follow_9 : decode cX9_follow 9 = .ok (.goto 4, 3) := by decide +kernel
theorem dX9_follow_12 : decode cX9_follow 12 = .ok (.iconst 0, 1) := by decide +kernel
theorem dX9_follow_13 : decode cX9_follow 13 = .ok (.invokevirtual 127, 3) := by decide +kernel
theorem dX9_follow_16 : decode cX9_follow 16 = .ok (.ifCond .ne 5, 3) := by decide +kernel
theorem dX9_follow_19 : decode cX9_follow 19 = .ok (.iconst 0, 1) := by decide +kernel
theorem dX9_follow_20 : decode cX9_follow 20 = .ok (.ireturn, 1) := by decide +kernel
theorem dX9_follow_21 : decode cX9_follow 21 = .ok (.iconst 0, 1) := by decide +kernel
theorem dX9_follow_22 : decode cX9_follow 22 = .ok (.istore_n 1, 1) := by decide +kernel
theorem dX9_follow_23 : decode cX9_follow 23 = .ok (.iconst 0, 1) := by decide +kernel
theorem dX9_follow_24 : decode cX9_follow 24 = .ok (.istore_n 2, 1) := by decide +kernel
theorem dX9_follow_25 : decode cX9_follow 25 = .ok (.iload_n 2, 1) := by decide +kernel
theorem dX9_follow_26 : decode cX9_follow 26 = .ok (.bipush 30, 2) := by decide +kernel
theorem dX9_follow_28 : decode cX9_follow 28 = .ok (.if_icmp .ge 56, 3) := by decide +kernel
theorem dX9_follow_31 : decode cX9_follow 31 = .ok (.aload_n 0, 1) := by decide +kernel
theorem dX9_follow_32 : decode cX9_follow 32 = .ok (.getfield 56, 3) := by decide +kernel
theorem dX9_follow_35 : decode cX9_follow 35 = .ok (.iload_n 2, 1) := by decide +kernel
theorem dX9_follow_36 : decode cX9_follow 36 = .ok (.iload_n 2, 1) := by decide +kernel
theorem dX9_follow_37 : decode cX9_follow 37 = .ok (.aload_n 0, 1) := by decide +kernel
theorem dX9_follow_38 : decode cX9_follow 38 = .ok (.getfield 191, 3) := by decide +kernel
theorem dX9_follow_41 : decode cX9_follow 41 = .ok (.if_icmp .ge 18, 3) := by decide +kernel
theorem dX9_follow_44 : decode cX9_follow 44 = .ok (.aload_n 0, 1) := by decide +kernel
theorem dX9_follow_45 : decode cX9_follow 45 = .ok (.getfield 50, 3) := by decide +kernel
theorem dX9_follow_48 : decode cX9_follow 48 = .ok (.iload_n 2, 1) := by decide +kernel
theorem dX9_follow_49 : decode cX9_follow 49 = .ok (.caload, 1) := by decide +kernel
theorem dX9_follow_50 : decode cX9_follow 50 = .ok (.bipush 115, 2) := by decide +kernel
theorem dX9_follow_52 : decode cX9_follow 52 = .ok (.if_icmp .ne 7, 3) := by decide +kernel
theorem dX9_follow_55 : decode cX9_follow 55 = .ok (.iconst 1, 1) := by decide +kernel
theorem dX9_follow_56 : decode cX9_follow 56 = .ok (.goto 4, 3) := by decide +kernel
theorem dX9_follow_59 : decode cX9_follow 59 = .ok (.iconst 0, 1) := by decide +kernel
theorem dX9_follow_60 : decode cX9_follow 60 = .ok (.bastore, 1) := by decide +kernel
theorem dX9_follow_61 : decode cX9_follow 61 = .ok (.iload_n 1, 1) := by decide +kernel
theorem dX9_follow_62 : decode cX9_follow 62 = .ok (.aload_n 0, 1) := by decide +kernel
theorem dX9_follow_63 : decode cX9_follow 63 = .ok (.getfield 56, 3) := by decide +kernel
theorem dX9_follow_66 : decode cX9_follow 66 = .ok (.iload_n 2, 1) := by decide +kernel
theorem dX9_follow_67 : decode cX9_follow 67 = .ok (.baload, 1) := by decide +kernel
theorem dX9_follow_68 : decode cX9_follow 68 = .ok (.ifCond .eq 7, 3) := by decide +kernel
theorem dX9_follow_71 : decode cX9_follow 71 = .ok (.iconst 1, 1) := by decide +kernel
theorem dX9_follow_72 : decode cX9_follow 72 = .ok (.goto 4, 3) := by decide +kernel
theorem dX9_follow_75 : decode cX9_follow 75 = .ok (.iconst 0, 1) := by decide +kernel
theorem dX9_follow_76 : decode cX9_follow 76 = .ok (.iadd, 1) := by decide +kernel
theorem dX9_follow_77 : decode cX9_follow 77 = .ok (.istore_n 1, 1) := by decide +kernel
theorem dX9_follow_78 : decode cX9_follow 78 = .ok (.iinc 2 1, 3) := by decide +kernel
theorem dX9_follow_81 : decode cX9_follow 81 = .ok (.goto (-56), 3) := by decide +kernel
theorem dX9_follow_84 : decode cX9_follow 84 = .ok (.iload_n 1, 1) := by decide +kernel
theorem dX9_follow_85 : decode cX9_follow 85 = .ok (.ireturn, 1) := by decide +kernel
theorem dX9_isOnReplica_0 : decode cX9_isOnReplica 0 = .ok (.aload_n 0, 1) := by decide +kernel
theorem dX9_isOnReplica_1 : decode cX9_isOnReplica 1 = .ok (.aload_n 0, 1) := by decide +kernel
theorem dX9_isOnReplica_2 : decode cX9_isOnReplica 2 = .ok (.iload_n 1, 1) := by decide +kernel
theorem dX9_isOnReplica_3 : decode cX9_isOnReplica 3 = .ok (.invokevirtual 130, 3) := by decide +kernel
theorem dX9_isOnReplica_6 : decode cX9_isOnReplica 6 = .ok (.ifCond .eq 7, 3) := by decide +kernel
theorem dX9_isOnReplica_9 : decode cX9_isOnReplica 9 = .ok (.iconst 0, 1) := by decide +kernel
theorem dX9_isOnReplica_10 : decode cX9_isOnReplica 10 = .ok (.goto 4, 3) := by decide +kernel
theorem dX9_isOnReplica_13 : decode cX9_isOnReplica 13 = .ok (.iconst 1, 1) := by decide +kernel
theorem dX9_isOnReplica_14 : decode cX9_isOnReplica 14 = .ok (.invokevirtual 127, 3) := by decide +kernel
theorem dX9_isOnReplica_17 : decode cX9_isOnReplica 17 = .ok (.ifCond .eq 16, 3) := by decide +kernel
theorem dX9_isOnReplica_20 : decode cX9_isOnReplica 20 = .ok (.aload_n 0, 1) := by decide +kernel
theorem dX9_isOnReplica_21 : decode cX9_isOnReplica 21 = .ok (.getfield 56, 3) := by decide +kernel
theorem dX9_isOnReplica_24 : decode cX9_isOnReplica 24 = .ok (.iload_n 1, 1) := by decide +kernel
theorem dX9_isOnReplica_25 : decode cX9_isOnReplica 25 = .ok (.baload, 1) := by decide +kernel
theorem dX9_isOnReplica_26 : decode cX9_isOnReplica 26 = .ok (.ifCond .eq 7, 3) := by decide +kernel
theorem dX9_isOnReplica_29 : decode cX9_isOnReplica 29 = .ok (.iconst 1, 1) := by decide +kernel
theorem dX9_isOnReplica_30 : decode cX9_isOnReplica 30 = .ok (.goto 4, 3) := by decide +kernel
theorem dX9_isOnReplica_33 : decode cX9_isOnReplica 33 = .ok (.iconst 0, 1) := by decide +kernel
theorem dX9_isOnReplica_34 : decode cX9_isOnReplica 34 = .ok (.ireturn, 1) := by decide +kernel
theorem dX9_openView_0 : decode cX9_openView 0 = .ok (.aload_n 0, 1) := by decide +kernel
theorem dX9_openView_1 : decode cX9_openView 1 = .ok (.aload_n 0, 1) := by decide +kernel
theorem dX9_openView_2 : decode cX9_openView 2 = .ok (.getfield 200, 3) := by decide +kernel
theorem dX9_openView_5 : decode cX9_openView 5 = .ok (.iconst 4, 1) := by decide +kernel
theorem dX9_openView_6 : decode cX9_openView 6 = .ok (.if_icmp .ne 7, 3) := by decide +kernel
theorem dX9_openView_9 : decode cX9_openView 9 = .ok (.iconst 1, 1) := by decide +kernel
theorem dX9_openView_10 : decode cX9_openView 10 = .ok (.goto 4, 3) := by decide +kernel
theorem dX9_openView_13 : decode cX9_openView 13 = .ok (.iconst 0, 1) := by decide +kernel
theorem dX9_openView_14 : decode cX9_openView 14 = .ok (.invokevirtual 127, 3) := by decide +kernel
theorem dX9_openView_17 : decode cX9_openView 17 = .ok (.ifCond .ne 5, 3) := by decide +kernel
theorem dX9_openView_20 : decode cX9_openView 20 = .ok (.iconst 0, 1) := by decide +kernel
theorem dX9_openView_21 : decode cX9_openView 21 = .ok (.ireturn, 1) := by decide +kernel
theorem dX9_openView_22 : decode cX9_openView 22 = .ok (.aload_n 0, 1) := by decide +kernel
theorem dX9_openView_23 : decode cX9_openView 23 = .ok (.getfield 60, 3) := by decide +kernel
theorem dX9_openView_26 : decode cX9_openView 26 = .ok (.aload_n 0, 1) := by decide +kernel
theorem dX9_openView_27 : decode cX9_openView 27 = .ok (.getfield 200, 3) := by decide +kernel
theorem dX9_openView_30 : decode cX9_openView 30 = .ok (.aload_n 0, 1) := by decide +kernel
theorem dX9_openView_31 : decode cX9_openView 31 = .ok (.getfield 203, 3) := by decide +kernel
theorem dX9_openView_34 : decode cX9_openView 34 = .ok (.iastore, 1) := by decide +kernel
theorem dX9_openView_35 : decode cX9_openView 35 = .ok (.iconst 0, 1) := by decide +kernel
theorem dX9_openView_36 : decode cX9_openView 36 = .ok (.istore_n 1, 1) := by decide +kernel
theorem dX9_openView_37 : decode cX9_openView 37 = .ok (.iload_n 1, 1) := by decide +kernel
theorem dX9_openView_38 : decode cX9_openView 38 = .ok (.bipush 30, 2) := by decide +kernel
theorem dX9_openView_40 : decode cX9_openView 40 = .ok (.if_icmp .ge 47, 3) := by decide +kernel
theorem dX9_openView_43 : decode cX9_openView 43 = .ok (.aload_n 0, 1) := by decide +kernel
theorem dX9_openView_44 : decode cX9_openView 44 = .ok (.getfield 63, 3) := by decide +kernel
theorem dX9_openView_47 : decode cX9_openView 47 = .ok (.bipush 30, 2) := by decide +kernel
theorem dX9_openView_49 : decode cX9_openView 49 = .ok (.aload_n 0, 1) := by decide +kernel
theorem dX9_openView_50 : decode cX9_openView 50 = .ok (.getfield 200, 3) := by decide +kernel
theorem dX9_openView_53 : decode cX9_openView 53 = .ok (.imul, 1) := by decide +kernel
theorem dX9_openView_54 : decode cX9_openView 54 = .ok (.iload_n 1, 1) := by decide +kernel
theorem dX9_openView_55 : decode cX9_openView 55 = .ok (.iadd, 1) := by decide +kernel
theorem dX9_openView_56 : decode cX9_openView 56 = .ok (.iload_n 1, 1) := by decide +kernel
theorem dX9_openView_57 : decode cX9_openView 57 = .ok (.aload_n 0, 1) := by decide +kernel
theorem dX9_openView_58 : decode cX9_openView 58 = .ok (.getfield 117, 3) := by decide +kernel
theorem dX9_openView_61 : decode cX9_openView 61 = .ok (.if_icmp .ge 18, 3) := by decide +kernel
theorem dX9_openView_64 : decode cX9_openView 64 = .ok (.aload_n 0, 1) := by decide +kernel
theorem dX9_openView_65 : decode cX9_openView 65 = .ok (.getfield 23, 3) := by decide +kernel
theorem dX9_openView_68 : decode cX9_openView 68 = .ok (.iload_n 1, 1) := by decide +kernel
theorem dX9_openView_69 : decode cX9_openView 69 = .ok (.caload, 1) := by decide +kernel
theorem dX9_openView_70 : decode cX9_openView 70 = .ok (.bipush 115, 2) := by decide +kernel
theorem dX9_openView_72 : decode cX9_openView 72 = .ok (.if_icmp .ne 7, 3) := by decide +kernel
theorem dX9_openView_75 : decode cX9_openView 75 = .ok (.iconst 1, 1) := by decide +kernel
theorem dX9_openView_76 : decode cX9_openView 76 = .ok (.goto 4, 3) := by decide +kernel
theorem dX9_openView_79 : decode cX9_openView 79 = .ok (.iconst 0, 1) := by decide +kernel
theorem dX9_openView_80 : decode cX9_openView 80 = .ok (.bastore, 1) := by decide +kernel
theorem dX9_openView_81 : decode cX9_openView 81 = .ok (.iinc 1 1, 3) := by decide +kernel
theorem dX9_openView_84 : decode cX9_openView 84 = .ok (.goto (-47), 3) := by decide +kernel
theorem dX9_openView_87 : decode cX9_openView 87 = .ok (.aload_n 0, 1) := by decide +kernel
theorem dX9_openView_88 : decode cX9_openView 88 = .ok (.dup, 1) := by decide +kernel
theorem dX9_openView_89 : decode cX9_openView 89 = .ok (.getfield 200, 3) := by decide +kernel
theorem dX9_openView_92 : decode cX9_openView 92 = .ok (.iconst 1, 1) := by decide +kernel
theorem dX9_openView_93 : decode cX9_openView 93 = .ok (.iadd, 1) := by decide +kernel
theorem dX9_openView_94 : decode cX9_openView 94 = .ok (.putfield 200, 3) := by decide +kernel
theorem dX9_openView_97 : decode cX9_openView 97 = .ok (.aload_n 0, 1) := by decide +kernel
theorem dX9_openView_98 : decode cX9_openView 98 = .ok (.dup, 1) := by decide +kernel
theorem dX9_openView_99 : decode cX9_openView 99 = .ok (.getfield 203, 3) := by decide +kernel
theorem dX9_openView_102 : decode cX9_openView 102 = .ok (.iconst 1, 1) := by decide +kernel
theorem dX9_openView_103 : decode cX9_openView 103 = .ok (.iadd, 1) := by decide +kernel
theorem dX9_openView_104 : decode cX9_openView 104 = .ok (.putfield 203, 3) := by decide +kernel
theorem dX9_openView_107 : decode cX9_openView 107 = .ok (.aload_n 0, 1) := by decide +kernel
theorem dX9_openView_108 : decode cX9_openView 108 = .ok (.getfield 203, 3) := by decide +kernel
theorem dX9_openView_111 : decode cX9_openView 111 = .ok (.iconst 1, 1) := by decide +kernel
theorem dX9_openView_112 : decode cX9_openView 112 = .ok (.isub, 1) := by decide +kernel
theorem dX9_openView_113 : decode cX9_openView 113 = .ok (.ireturn, 1) := by decide +kernel
theorem dX9_viewAt_0 : decode cX9_viewAt 0 = .ok (.iconst (-1), 1) := by decide +kernel
theorem dX9_viewAt_1 : decode cX9_viewAt 1 = .ok (.istore_n 2, 1) := by decide +kernel
theorem dX9_viewAt_2 : decode cX9_viewAt 2 = .ok (.iconst 0, 1) := by decide +kernel
theorem dX9_viewAt_3 : decode cX9_viewAt 3 = .ok (.istore_n 3, 1) := by decide +kernel
theorem dX9_viewAt_4 : decode cX9_viewAt 4 = .ok (.iload_n 3, 1) := by decide +kernel
theorem dX9_viewAt_5 : decode cX9_viewAt 5 = .ok (.aload_n 0, 1) := by decide +kernel
theorem dX9_viewAt_6 : decode cX9_viewAt 6 = .ok (.getfield 200, 3) := by decide +kernel
theorem dX9_viewAt_9 : decode cX9_viewAt 9 = .ok (.if_icmp .ge 25, 3) := by decide +kernel
theorem dX9_viewAt_12 : decode cX9_viewAt 12 = .ok (.aload_n 0, 1) := by decide +kernel
theorem dX9_viewAt_13 : decode cX9_viewAt 13 = .ok (.getfield 60, 3) := by decide +kernel
theorem dX9_viewAt_16 : decode cX9_viewAt 16 = .ok (.iload_n 3, 1) := by decide +kernel
theorem dX9_viewAt_17 : decode cX9_viewAt 17 = .ok (.iaload, 1) := by decide +kernel
theorem dX9_viewAt_18 : decode cX9_viewAt 18 = .ok (.iload_n 1, 1) := by decide +kernel
theorem dX9_viewAt_19 : decode cX9_viewAt 19 = .ok (.if_icmp .ne 7, 3) := by decide +kernel
theorem dX9_viewAt_22 : decode cX9_viewAt 22 = .ok (.iload_n 3, 1) := by decide +kernel
theorem dX9_viewAt_23 : decode cX9_viewAt 23 = .ok (.goto 4, 3) := by decide +kernel
theorem dX9_viewAt_26 : decode cX9_viewAt 26 = .ok (.iload_n 2, 1) := by decide +kernel
theorem dX9_viewAt_27 : decode cX9_viewAt 27 = .ok (.istore_n 2, 1) := by decide +kernel
theorem dX9_viewAt_28 : decode cX9_viewAt 28 = .ok (.iinc 3 1, 3) := by decide +kernel
theorem dX9_viewAt_31 : decode cX9_viewAt 31 = .ok (.goto (-27), 3) := by decide +kernel
theorem dX9_viewAt_34 : decode cX9_viewAt 34 = .ok (.iload_n 2, 1) := by decide +kernel
theorem dX9_viewAt_35 : decode cX9_viewAt 35 = .ok (.ireturn, 1) := by decide +kernel
theorem dX9_closeView_0 : decode cX9_closeView 0 = .ok (.aload_n 0, 1) := by decide +kernel
theorem dX9_closeView_1 : decode cX9_closeView 1 = .ok (.iload_n 1, 1) := by decide +kernel
theorem dX9_closeView_2 : decode cX9_closeView 2 = .ok (.invokevirtual 206, 3) := by decide +kernel
theorem dX9_closeView_5 : decode cX9_closeView 5 = .ok (.istore_n 2, 1) := by decide +kernel
theorem dX9_closeView_6 : decode cX9_closeView 6 = .ok (.aload_n 0, 1) := by decide +kernel
theorem dX9_closeView_7 : decode cX9_closeView 7 = .ok (.iload_n 2, 1) := by decide +kernel
theorem dX9_closeView_8 : decode cX9_closeView 8 = .ok (.iconst (-1), 1) := by decide +kernel
theorem dX9_closeView_9 : decode cX9_closeView 9 = .ok (.if_icmp .ne 7, 3) := by decide +kernel
theorem dX9_closeView_12 : decode cX9_closeView 12 = .ok (.iconst 1, 1) := by decide +kernel
theorem dX9_closeView_13 : decode cX9_closeView 13 = .ok (.goto 4, 3) := by decide +kernel
theorem dX9_closeView_16 : decode cX9_closeView 16 = .ok (.iconst 0, 1) := by decide +kernel
theorem dX9_closeView_17 : decode cX9_closeView 17 = .ok (.invokevirtual 127, 3) := by decide +kernel
theorem dX9_closeView_20 : decode cX9_closeView 20 = .ok (.ifCond .ne 5, 3) := by decide +kernel
theorem dX9_closeView_23 : decode cX9_closeView 23 = .ok (.iconst 0, 1) := by decide +kernel
theorem dX9_closeView_24 : decode cX9_closeView 24 = .ok (.ireturn, 1) := by decide +kernel
theorem dX9_closeView_25 : decode cX9_closeView 25 = .ok (.aload_n 0, 1) := by decide +kernel
theorem dX9_closeView_26 : decode cX9_closeView 26 = .ok (.dup, 1) := by decide +kernel
theorem dX9_closeView_27 : decode cX9_closeView 27 = .ok (.getfield 200, 3) := by decide +kernel
theorem dX9_closeView_30 : decode cX9_closeView 30 = .ok (.iconst 1, 1) := by decide +kernel
theorem dX9_closeView_31 : decode cX9_closeView 31 = .ok (.isub, 1) := by decide +kernel
theorem dX9_closeView_32 : decode cX9_closeView 32 = .ok (.putfield 200, 3) := by decide +kernel
theorem dX9_closeView_35 : decode cX9_closeView 35 = .ok (.iload_n 2, 1) := by decide +kernel
theorem dX9_closeView_36 : decode cX9_closeView 36 = .ok (.istore_n 3, 1) := by decide +kernel
theorem dX9_closeView_37 : decode cX9_closeView 37 = .ok (.iload_n 3, 1) := by decide +kernel
theorem dX9_closeView_38 : decode cX9_closeView 38 = .ok (.aload_n 0, 1) := by decide +kernel
theorem dX9_closeView_39 : decode cX9_closeView 39 = .ok (.getfield 200, 3) := by decide +kernel
theorem dX9_closeView_42 : decode cX9_closeView 42 = .ok (.if_icmp .ge 65, 3) := by decide +kernel
theorem dX9_closeView_45 : decode cX9_closeView 45 = .ok (.aload_n 0, 1) := by decide +kernel
theorem dX9_closeView_46 : decode cX9_closeView 46 = .ok (.getfield 60, 3) := by decide +kernel
theorem dX9_closeView_49 : decode cX9_closeView 49 = .ok (.iload_n 3, 1) := by decide +kernel
theorem dX9_closeView_50 : decode cX9_closeView 50 = .ok (.aload_n 0, 1) := by decide +kernel
theorem dX9_closeView_51 : decode cX9_closeView 51 = .ok (.getfield 60, 3) := by decide +kernel
theorem dX9_closeView_54 : decode cX9_closeView 54 = .ok (.iload_n 3, 1) := by decide +kernel
theorem dX9_closeView_55 : decode cX9_closeView 55 = .ok (.iconst 1, 1) := by decide +kernel
theorem dX9_closeView_56 : decode cX9_closeView 56 = .ok (.iadd, 1) := by decide +kernel
theorem dX9_closeView_57 : decode cX9_closeView 57 = .ok (.iaload, 1) := by decide +kernel
theorem dX9_closeView_58 : decode cX9_closeView 58 = .ok (.iastore, 1) := by decide +kernel
theorem dX9_closeView_59 : decode cX9_closeView 59 = .ok (.iconst 0, 1) := by decide +kernel
theorem dX9_closeView_60 : decode cX9_closeView 60 = .ok (.istore 4, 2) := by decide +kernel
theorem dX9_closeView_62 : decode cX9_closeView 62 = .ok (.iload 4, 2) := by decide +kernel
theorem dX9_closeView_64 : decode cX9_closeView 64 = .ok (.bipush 30, 2) := by decide +kernel
theorem dX9_closeView_66 : decode cX9_closeView 66 = .ok (.if_icmp .ge 35, 3) := by decide +kernel
theorem dX9_closeView_69 : decode cX9_closeView 69 = .ok (.aload_n 0, 1) := by decide +kernel
theorem dX9_closeView_70 : decode cX9_closeView 70 = .ok (.getfield 63, 3) := by decide +kernel
theorem dX9_closeView_73 : decode cX9_closeView 73 = .ok (.bipush 30, 2) := by decide +kernel
theorem dX9_closeView_75 : decode cX9_closeView 75 = .ok (.iload_n 3, 1) := by decide +kernel
theorem dX9_closeView_76 : decode cX9_closeView 76 = .ok (.imul, 1) := by decide +kernel
theorem dX9_closeView_77 : decode cX9_closeView 77 = .ok (.iload 4, 2) := by decide +kernel
theorem dX9_closeView_79 : decode cX9_closeView 79 = .ok (.iadd, 1) := by decide +kernel
theorem dX9_closeView_80 : decode cX9_closeView 80 = .ok (.aload_n 0, 1) := by decide +kernel
theorem dX9_closeView_81 : decode cX9_closeView 81 = .ok (.getfield 63, 3) := by decide +kernel
theorem dX9_closeView_84 : decode cX9_closeView 84 = .ok (.bipush 30, 2) := by decide +kernel
theorem dX9_closeView_86 : decode cX9_closeView 86 = .ok (.iload_n 3, 1) := by decide +kernel
theorem dX9_closeView_87 : decode cX9_closeView 87 = .ok (.iconst 1, 1) := by decide +kernel
theorem dX9_closeView_88 : decode cX9_closeView 88 = .ok (.iadd, 1) := by decide +kernel
theorem dX9_closeView_89 : decode cX9_closeView 89 = .ok (.imul, 1) := by decide +kernel
theorem dX9_closeView_90 : decode cX9_closeView 90 = .ok (.iload 4, 2) := by decide +kernel
theorem dX9_closeView_92 : decode cX9_closeView 92 = .ok (.iadd, 1) := by decide +kernel
theorem dX9_closeView_93 : decode cX9_closeView 93 = .ok (.baload, 1) := by decide +kernel
theorem dX9_closeView_94 : decode cX9_closeView 94 = .ok (.bastore, 1) := by decide +kernel
theorem dX9_closeView_95 : decode cX9_closeView 95 = .ok (.iinc 4 1, 3) := by decide +kernel
theorem dX9_closeView_98 : decode cX9_closeView 98 = .ok (.goto (-36), 3) := by decide +kernel
theorem dX9_closeView_101 : decode cX9_closeView 101 = .ok (.iinc 3 1, 3) := by decide +kernel
theorem dX9_closeView_104 : decode cX9_closeView 104 = .ok (.goto (-67), 3) := by decide +kernel
theorem dX9_closeView_107 : decode cX9_closeView 107 = .ok (.aload_n 0, 1) := by decide +kernel
theorem dX9_closeView_108 : decode cX9_closeView 108 = .ok (.getfield 200, 3) := by decide +kernel
theorem dX9_closeView_111 : decode cX9_closeView 111 = .ok (.ireturn, 1) := by decide +kernel
theorem dX9_seenBy_0 : decode cX9_seenBy 0 = .ok (.iconst 0, 1) := by decide +kernel
theorem dX9_seenBy_1 : decode cX9_seenBy 1 = .ok (.istore_n 2, 1) := by decide +kernel
theorem dX9_seenBy_2 : decode cX9_seenBy 2 = .ok (.iconst 0, 1) := by decide +kernel
theorem dX9_seenBy_3 : decode cX9_seenBy 3 = .ok (.istore_n 3, 1) := by decide +kernel
theorem dX9_seenBy_4 : decode cX9_seenBy 4 = .ok (.iload_n 3, 1) := by decide +kernel
theorem dX9_seenBy_5 : decode cX9_seenBy 5 = .ok (.bipush 30, 2) := by decide +kernel
theorem dX9_seenBy_7 : decode cX9_seenBy 7 = .ok (.if_icmp .ge 31, 3) := by decide +kernel
theorem dX9_seenBy_10 : decode cX9_seenBy 10 = .ok (.iload_n 2, 1) := by decide +kernel
theorem dX9_seenBy_11 : decode cX9_seenBy 11 = .ok (.aload_n 0, 1) := by decide +kernel
theorem dX9_seenBy_12 : decode cX9_seenBy 12 = .ok (.getfield 63, 3) := by decide +kernel
theorem dX9_seenBy_15 : decode cX9_seenBy 15 = .ok (.bipush 30, 2) := by decide +kernel
theorem dX9_seenBy_17 : decode cX9_seenBy 17 = .ok (.iload_n 1, 1) := by decide +kernel
theorem dX9_seenBy_18 : decode cX9_seenBy 18 = .ok (.imul, 1) := by decide +kernel
theorem dX9_seenBy_19 : decode cX9_seenBy 19 = .ok (.iload_n 3, 1) := by decide +kernel
theorem dX9_seenBy_20 : decode cX9_seenBy 20 = .ok (.iadd, 1) := by decide +kernel
theorem dX9_seenBy_21 : decode cX9_seenBy 21 = .ok (.baload, 1) := by decide +kernel
theorem dX9_seenBy_22 : decode cX9_seenBy 22 = .ok (.ifCond .eq 7, 3) := by decide +kernel
theorem dX9_seenBy_25 : decode cX9_seenBy 25 = .ok (.iconst 1, 1) := by decide +kernel
theorem dX9_seenBy_26 : decode cX9_seenBy 26 = .ok (.goto 4, 3) := by decide +kernel
theorem dX9_seenBy_29 : decode cX9_seenBy 29 = .ok (.iconst 0, 1) := by decide +kernel
theorem dX9_seenBy_30 : decode cX9_seenBy 30 = .ok (.iadd, 1) := by decide +kernel
theorem dX9_seenBy_31 : decode cX9_seenBy 31 = .ok (.istore_n 2, 1) := by decide +kernel
theorem dX9_seenBy_32 : decode cX9_seenBy 32 = .ok (.iinc 3 1, 3) := by decide +kernel
theorem dX9_seenBy_35 : decode cX9_seenBy 35 = .ok (.goto (-31), 3) := by decide +kernel
theorem dX9_seenBy_38 : decode cX9_seenBy 38 = .ok (.iload_n 2, 1) := by decide +kernel
theorem dX9_seenBy_39 : decode cX9_seenBy 39 = .ok (.ireturn, 1) := by decide +kernel
theorem dX9_seen_0 : decode cX9_seen 0 = .ok (.aload_n 0, 1) := by decide +kernel
theorem dX9_seen_1 : decode cX9_seen 1 = .ok (.iload_n 1, 1) := by decide +kernel
theorem dX9_seen_2 : decode cX9_seen 2 = .ok (.invokevirtual 206, 3) := by decide +kernel
theorem dX9_seen_5 : decode cX9_seen 5 = .ok (.istore_n 2, 1) := by decide +kernel
theorem dX9_seen_6 : decode cX9_seen 6 = .ok (.aload_n 0, 1) := by decide +kernel
theorem dX9_seen_7 : decode cX9_seen 7 = .ok (.iload_n 2, 1) := by decide +kernel
theorem dX9_seen_8 : decode cX9_seen 8 = .ok (.iconst (-1), 1) := by decide +kernel
theorem dX9_seen_9 : decode cX9_seen 9 = .ok (.if_icmp .ne 7, 3) := by decide +kernel
theorem dX9_seen_12 : decode cX9_seen 12 = .ok (.iconst 1, 1) := by decide +kernel
theorem dX9_seen_13 : decode cX9_seen 13 = .ok (.goto 4, 3) := by decide +kernel
theorem dX9_seen_16 : decode cX9_seen 16 = .ok (.iconst 0, 1) := by decide +kernel
theorem dX9_seen_17 : decode cX9_seen 17 = .ok (.invokevirtual 127, 3) := by decide +kernel
theorem dX9_seen_20 : decode cX9_seen 20 = .ok (.ifCond .eq 11, 3) := by decide +kernel
theorem dX9_seen_23 : decode cX9_seen 23 = .ok (.aload_n 0, 1) := by decide +kernel
theorem dX9_seen_24 : decode cX9_seen 24 = .ok (.iload_n 2, 1) := by decide +kernel
theorem dX9_seen_25 : decode cX9_seen 25 = .ok (.invokevirtual 209, 3) := by decide +kernel
theorem dX9_seen_28 : decode cX9_seen 28 = .ok (.goto 4, 3) := by decide +kernel
theorem dX9_seen_31 : decode cX9_seen 31 = .ok (.iconst 0, 1) := by decide +kernel
theorem dX9_seen_32 : decode cX9_seen 32 = .ok (.ireturn, 1) := by decide +kernel
theorem dX9_adds_0 : decode cX9_adds 0 = .ok (.aload_n 0, 1) := by decide +kernel
theorem dX9_adds_1 : decode cX9_adds 1 = .ok (.getfield 66, 3) := by decide +kernel
theorem dX9_adds_4 : decode cX9_adds 4 = .ok (.aload_n 0, 1) := by decide +kernel
theorem dX9_adds_5 : decode cX9_adds 5 = .ok (.getfield 212, 3) := by decide +kernel
theorem dX9_adds_8 : decode cX9_adds 8 = .ok (.iload_n 1, 1) := by decide +kernel
theorem dX9_adds_9 : decode cX9_adds 9 = .ok (.castore, 1) := by decide +kernel
theorem dX9_adds_10 : decode cX9_adds 10 = .ok (.aload_n 0, 1) := by decide +kernel
theorem dX9_adds_11 : decode cX9_adds 11 = .ok (.getfield 69, 3) := by decide +kernel
theorem dX9_adds_14 : decode cX9_adds 14 = .ok (.aload_n 0, 1) := by decide +kernel
theorem dX9_adds_15 : decode cX9_adds 15 = .ok (.getfield 212, 3) := by decide +kernel
theorem dX9_adds_18 : decode cX9_adds 18 = .ok (.iload_n 2, 1) := by decide +kernel
theorem dX9_adds_19 : decode cX9_adds 19 = .ok (.iastore, 1) := by decide +kernel
theorem dX9_adds_20 : decode cX9_adds 20 = .ok (.aload_n 0, 1) := by decide +kernel
theorem dX9_adds_21 : decode cX9_adds 21 = .ok (.getfield 72, 3) := by decide +kernel
theorem dX9_adds_24 : decode cX9_adds 24 = .ok (.aload_n 0, 1) := by decide +kernel
theorem dX9_adds_25 : decode cX9_adds 25 = .ok (.getfield 212, 3) := by decide +kernel
theorem dX9_adds_28 : decode cX9_adds 28 = .ok (.iload_n 3, 1) := by decide +kernel
theorem dX9_adds_29 : decode cX9_adds 29 = .ok (.iastore, 1) := by decide +kernel
theorem dX9_adds_30 : decode cX9_adds 30 = .ok (.aload_n 0, 1) := by decide +kernel
theorem dX9_adds_31 : decode cX9_adds 31 = .ok (.getfield 75, 3) := by decide +kernel
theorem dX9_adds_34 : decode cX9_adds 34 = .ok (.aload_n 0, 1) := by decide +kernel
theorem dX9_adds_35 : decode cX9_adds 35 = .ok (.getfield 212, 3) := by decide +kernel
theorem dX9_adds_38 : decode cX9_adds 38 = .ok (.iload 4, 2) := by decide +kernel
theorem dX9_adds_40 : decode cX9_adds 40 = .ok (.iastore, 1) := by decide +kernel
theorem dX9_adds_41 : decode cX9_adds 41 = .ok (.aload_n 0, 1) := by decide +kernel
theorem dX9_adds_42 : decode cX9_adds 42 = .ok (.getfield 78, 3) := by decide +kernel
theorem dX9_adds_45 : decode cX9_adds 45 = .ok (.aload_n 0, 1) := by decide +kernel
theorem dX9_adds_46 : decode cX9_adds 46 = .ok (.getfield 212, 3) := by decide +kernel
theorem dX9_adds_49 : decode cX9_adds 49 = .ok (.iload 5, 2) := by decide +kernel
theorem dX9_adds_51 : decode cX9_adds 51 = .ok (.iastore, 1) := by decide +kernel
theorem dX9_adds_52 : decode cX9_adds 52 = .ok (.aload_n 0, 1) := by decide +kernel
theorem dX9_adds_53 : decode cX9_adds 53 = .ok (.getfield 81, 3) := by decide +kernel
theorem dX9_adds_56 : decode cX9_adds 56 = .ok (.aload_n 0, 1) := by decide +kernel
theorem dX9_adds_57 : decode cX9_adds 57 = .ok (.getfield 212, 3) := by decide +kernel
theorem dX9_adds_60 : decode cX9_adds 60 = .ok (.iload 6, 2) := by decide +kernel
theorem dX9_adds_62 : decode cX9_adds 62 = .ok (.iastore, 1) := by decide +kernel
theorem dX9_adds_63 : decode cX9_adds 63 = .ok (.aload_n 0, 1) := by decide +kernel
theorem dX9_adds_64 : decode cX9_adds 64 = .ok (.dup, 1) := by decide +kernel
theorem dX9_adds_65 : decode cX9_adds 65 = .ok (.getfield 212, 3) := by decide +kernel
theorem dX9_adds_68 : decode cX9_adds 68 = .ok (.iconst 1, 1) := by decide +kernel
theorem dX9_adds_69 : decode cX9_adds 69 = .ok (.iadd, 1) := by decide +kernel
theorem dX9_adds_70 : decode cX9_adds 70 = .ok (.putfield 212, 3) := by decide +kernel
theorem dX9_adds_73 : decode cX9_adds 73 = .ok (.aload_n 0, 1) := by decide +kernel
theorem dX9_adds_74 : decode cX9_adds 74 = .ok (.getfield 212, 3) := by decide +kernel
theorem dX9_adds_77 : decode cX9_adds 77 = .ok (.iconst 1, 1) := by decide +kernel
theorem dX9_adds_78 : decode cX9_adds 78 = .ok (.isub, 1) := by decide +kernel
theorem dX9_adds_79 : decode cX9_adds 79 = .ok (.ireturn, 1) := by decide +kernel
theorem dX9_isQuery_0 : decode cX9_isQuery 0 = .ok (.iload_n 1, 1) := by decide +kernel
theorem dX9_isQuery_1 : decode cX9_isQuery 1 = .ok (.iconst 0, 1) := by decide +kernel
theorem dX9_isQuery_2 : decode cX9_isQuery 2 = .ok (.aload_n 0, 1) := by decide +kernel
theorem dX9_isQuery_3 : decode cX9_isQuery 3 = .ok (.getfield 212, 3) := by decide +kernel
theorem dX9_isQuery_6 : decode cX9_isQuery 6 = .ok (.iconst 1, 1) := by decide +kernel
theorem dX9_isQuery_7 : decode cX9_isQuery 7 = .ok (.isub, 1) := by decide +kernel
theorem dX9_isQuery_8 : decode cX9_isQuery 8 = .ok (.invokestatic 113, 3) := by decide +kernel
theorem dX9_isQuery_11 : decode cX9_isQuery 11 = .ok (.ireturn, 1) := by decide +kernel
theorem dX9_ask_0 : decode cX9_ask 0 = .ok (.iload_n 1, 1) := by decide +kernel
theorem dX9_ask_1 : decode cX9_ask 1 = .ok (.bipush 119, 2) := by decide +kernel
theorem dX9_ask_3 : decode cX9_ask 3 = .ok (.if_icmp .eq 15, 3) := by decide +kernel
theorem dX9_ask_6 : decode cX9_ask 6 = .ok (.iload_n 1, 1) := by decide +kernel
theorem dX9_ask_7 : decode cX9_ask 7 = .ok (.bipush 112, 2) := by decide +kernel
theorem dX9_ask_9 : decode cX9_ask 9 = .ok (.if_icmp .eq 9, 3) := by decide +kernel
theorem dX9_ask_12 : decode cX9_ask 12 = .ok (.iload_n 1, 1) := by decide +kernel
theorem dX9_ask_13 : decode cX9_ask 13 = .ok (.bipush 110, 2) := by decide +kernel
theorem dX9_ask_15 : decode cX9_ask 15 = .ok (.if_icmp .ne 7, 3) := by decide +kernel
theorem dX9_ask_18 : decode cX9_ask 18 = .ok (.iconst 1, 1) := by decide +kernel
theorem dX9_ask_19 : decode cX9_ask 19 = .ok (.goto 4, 3) := by decide +kernel
theorem dX9_ask_22 : decode cX9_ask 22 = .ok (.iconst 0, 1) := by decide +kernel
theorem dX9_ask_23 : decode cX9_ask 23 = .ok (.istore 6, 2) := by decide +kernel
theorem dX9_ask_25 : decode cX9_ask 25 = .ok (.iload_n 2, 1) := by decide +kernel
theorem dX9_ask_26 : decode cX9_ask 26 = .ok (.invokestatic 120, 3) := by decide +kernel
theorem dX9_ask_29 : decode cX9_ask 29 = .ok (.ifCond .eq 48, 3) := by decide +kernel
theorem dX9_ask_32 : decode cX9_ask 32 = .ok (.iload_n 1, 1) := by decide +kernel
theorem dX9_ask_33 : decode cX9_ask 33 = .ok (.bipush 119, 2) := by decide +kernel
theorem dX9_ask_35 : decode cX9_ask 35 = .ok (.if_icmp .eq 10, 3) := by decide +kernel
theorem dX9_ask_38 : decode cX9_ask 38 = .ok (.iload_n 3, 1) := by decide +kernel
theorem dX9_ask_39 : decode cX9_ask 39 = .ok (.invokestatic 120, 3) := by decide +kernel
theorem dX9_ask_42 : decode cX9_ask 42 = .ok (.ifCond .eq 35, 3) := by decide +kernel
theorem dX9_ask_45 : decode cX9_ask 45 = .ok (.iload_n 1, 1) := by decide +kernel
theorem dX9_ask_46 : decode cX9_ask 46 = .ok (.bipush 110, 2) := by decide +kernel
theorem dX9_ask_48 : decode cX9_ask 48 = .ok (.if_icmp .ne 14, 3) := by decide +kernel
theorem dX9_ask_51 : decode cX9_ask 51 = .ok (.iload 4, 2) := by decide +kernel
theorem dX9_ask_53 : decode cX9_ask 53 = .ok (.iconst 1, 1) := by decide +kernel
theorem dX9_ask_54 : decode cX9_ask 54 = .ok (.bipush 9, 2) := by decide +kernel
theorem dX9_ask_56 : decode cX9_ask 56 = .ok (.invokestatic 113, 3) := by decide +kernel
theorem dX9_ask_59 : decode cX9_ask 59 = .ok (.ifCond .eq 18, 3) := by decide +kernel
theorem dX9_ask_62 : decode cX9_ask 62 = .ok (.iload 5, 2) := by decide +kernel
theorem dX9_ask_64 : decode cX9_ask 64 = .ok (.iconst 1, 1) := by decide +kernel
theorem dX9_ask_65 : decode cX9_ask 65 = .ok (.bipush 9, 2) := by decide +kernel
theorem dX9_ask_67 : decode cX9_ask 67 = .ok (.invokestatic 113, 3) := by decide +kernel
theorem dX9_ask_70 : decode cX9_ask 70 = .ok (.ifCond .eq 7, 3) := by decide +kernel
theorem dX9_ask_73 : decode cX9_ask 73 = .ok (.iconst 1, 1) := by decide +kernel
theorem dX9_ask_74 : decode cX9_ask 74 = .ok (.goto 4, 3) := by decide +kernel
theorem dX9_ask_77 : decode cX9_ask 77 = .ok (.iconst 0, 1) := by decide +kernel
theorem dX9_ask_78 : decode cX9_ask 78 = .ok (.istore 7, 2) := by decide +kernel
theorem dX9_ask_80 : decode cX9_ask 80 = .ok (.aload_n 0, 1) := by decide +kernel
theorem dX9_ask_81 : decode cX9_ask 81 = .ok (.iload 6, 2) := by decide +kernel
theorem dX9_ask_83 : decode cX9_ask 83 = .ok (.ifCond .eq 8, 3) := by decide +kernel
theorem dX9_ask_86 : decode cX9_ask 86 = .ok (.iload 7, 2) := by decide +kernel
theorem dX9_ask_88 : decode cX9_ask 88 = .ok (.ifCond .ne 7, 3) := by decide +kernel
theorem dX9_ask_91 : decode cX9_ask 91 = .ok (.iconst 1, 1) := by decide +kernel
theorem dX9_ask_92 : decode cX9_ask 92 = .ok (.goto 17, 3) := by decide +kernel
theorem dX9_ask_95 : decode cX9_ask 95 = .ok (.aload_n 0, 1) := by decide +kernel
theorem dX9_ask_96 : decode cX9_ask 96 = .ok (.getfield 212, 3) := by decide +kernel
theorem dX9_ask_99 : decode cX9_ask 99 = .ok (.bipush 40, 2) := by decide +kernel
theorem dX9_ask_101 : decode cX9_ask 101 = .ok (.if_icmp .ne 7, 3) := by decide +kernel
theorem dX9_ask_104 : decode cX9_ask 104 = .ok (.iconst 2, 1) := by decide +kernel
theorem dX9_ask_105 : decode cX9_ask 105 = .ok (.goto 4, 3) := by decide +kernel
theorem dX9_ask_108 : decode cX9_ask 108 = .ok (.iconst 0, 1) := by decide +kernel
theorem dX9_ask_109 : decode cX9_ask 109 = .ok (.invokevirtual 127, 3) := by decide +kernel
theorem dX9_ask_112 : decode cX9_ask 112 = .ok (.ifCond .eq 18, 3) := by decide +kernel
theorem dX9_ask_115 : decode cX9_ask 115 = .ok (.aload_n 0, 1) := by decide +kernel
theorem dX9_ask_116 : decode cX9_ask 116 = .ok (.iload_n 1, 1) := by decide +kernel
theorem dX9_ask_117 : decode cX9_ask 117 = .ok (.iload_n 2, 1) := by decide +kernel
theorem dX9_ask_118 : decode cX9_ask 118 = .ok (.iload_n 3, 1) := by decide +kernel
theorem dX9_ask_119 : decode cX9_ask 119 = .ok (.iload 4, 2) := by decide +kernel
theorem dX9_ask_121 : decode cX9_ask 121 = .ok (.iload 5, 2) := by decide +kernel
theorem dX9_ask_123 : decode cX9_ask 123 = .ok (.iconst 1, 1) := by decide +kernel
theorem dX9_ask_124 : decode cX9_ask 124 = .ok (.invokevirtual 215, 3) := by decide +kernel
theorem dX9_ask_127 : decode cX9_ask 127 = .ok (.goto 4, 3) := by decide +kernel
theorem dX9_ask_130 : decode cX9_ask 130 = .ok (.iconst 0, 1) := by decide +kernel
theorem dX9_ask_131 : decode cX9_ask 131 = .ok (.ireturn, 1) := by decide +kernel
theorem dX9_join_0 : decode cX9_join 0 = .ok (.iload_n 1, 1) := by decide +kernel
theorem dX9_join_1 : decode cX9_join 1 = .ok (.bipush 97, 2) := by decide +kernel
theorem dX9_join_3 : decode cX9_join 3 = .ok (.if_icmp .eq 21, 3) := by decide +kernel
theorem dX9_join_6 : decode cX9_join 6 = .ok (.iload_n 1, 1) := by decide +kernel
theorem dX9_join_7 : decode cX9_join 7 = .ok (.bipush 111, 2) := by decide +kernel
theorem dX9_join_9 : decode cX9_join 9 = .ok (.if_icmp .eq 15, 3) := by decide +kernel
theorem dX9_join_12 : decode cX9_join 12 = .ok (.iload_n 1, 1) := by decide +kernel
theorem dX9_join_13 : decode cX9_join 13 = .ok (.bipush 120, 2) := by decide +kernel
theorem dX9_join_15 : decode cX9_join 15 = .ok (.if_icmp .eq 9, 3) := by decide +kernel
theorem dX9_join_18 : decode cX9_join 18 = .ok (.iload_n 1, 1) := by decide +kernel
theorem dX9_join_19 : decode cX9_join 19 = .ok (.bipush 105, 2) := by decide +kernel
theorem dX9_join_21 : decode cX9_join 21 = .ok (.if_icmp .ne 7, 3) := by decide +kernel
theorem dX9_join_24 : decode cX9_join 24 = .ok (.iconst 1, 1) := by decide +kernel
theorem dX9_join_25 : decode cX9_join 25 = .ok (.goto 4, 3) := by decide +kernel
theorem dX9_join_28 : decode cX9_join 28 = .ok (.iconst 0, 1) := by decide +kernel
theorem dX9_join_29 : decode cX9_join 29 = .ok (.istore 4, 2) := by decide +kernel
theorem dX9_join_31 : decode cX9_join 31 = .ok (.aload_n 0, 1) := by decide +kernel
theorem dX9_join_32 : decode cX9_join 32 = .ok (.iload_n 2, 1) := by decide +kernel
theorem dX9_join_33 : decode cX9_join 33 = .ok (.invokevirtual 219, 3) := by decide +kernel
theorem dX9_join_36 : decode cX9_join 36 = .ok (.ifCond .eq 15, 3) := by decide +kernel
theorem dX9_join_39 : decode cX9_join 39 = .ok (.aload_n 0, 1) := by decide +kernel
theorem dX9_join_40 : decode cX9_join 40 = .ok (.iload_n 3, 1) := by decide +kernel
theorem dX9_join_41 : decode cX9_join 41 = .ok (.invokevirtual 219, 3) := by decide +kernel
theorem dX9_join_44 : decode cX9_join 44 = .ok (.ifCond .eq 7, 3) := by decide +kernel
theorem dX9_join_47 : decode cX9_join 47 = .ok (.iconst 1, 1) := by decide +kernel
theorem dX9_join_48 : decode cX9_join 48 = .ok (.goto 4, 3) := by decide +kernel
theorem dX9_join_51 : decode cX9_join 51 = .ok (.iconst 0, 1) := by decide +kernel
theorem dX9_join_52 : decode cX9_join 52 = .ok (.istore 5, 2) := by decide +kernel
theorem dX9_join_54 : decode cX9_join 54 = .ok (.iload 5, 2) := by decide +kernel
theorem dX9_join_56 : decode cX9_join 56 = .ok (.ifCond .eq 34, 3) := by decide +kernel
theorem dX9_join_59 : decode cX9_join 59 = .ok (.aload_n 0, 1) := by decide +kernel
theorem dX9_join_60 : decode cX9_join 60 = .ok (.getfield 212, 3) := by decide +kernel
theorem dX9_join_63 : decode cX9_join 63 = .ok (.bipush 40, 2) := by decide +kernel
theorem dX9_join_65 : decode cX9_join 65 = .ok (.if_icmp .eq 21, 3) := by decide +kernel
theorem dX9_join_68 : decode cX9_join 68 = .ok (.aload_n 0, 1) := by decide +kernel
theorem dX9_join_69 : decode cX9_join 69 = .ok (.getfield 81, 3) := by decide +kernel
theorem dX9_join_72 : decode cX9_join 72 = .ok (.iload_n 2, 1) := by decide +kernel
theorem dX9_join_73 : decode cX9_join 73 = .ok (.iaload, 1) := by decide +kernel
theorem dX9_join_74 : decode cX9_join 74 = .ok (.aload_n 0, 1) := by decide +kernel
theorem dX9_join_75 : decode cX9_join 75 = .ok (.getfield 81, 3) := by decide +kernel
theorem dX9_join_78 : decode cX9_join 78 = .ok (.iload_n 3, 1) := by decide +kernel
theorem dX9_join_79 : decode cX9_join 79 = .ok (.iaload, 1) := by decide +kernel
theorem dX9_join_80 : decode cX9_join 80 = .ok (.iadd, 1) := by decide +kernel
theorem dX9_join_81 : decode cX9_join 81 = .ok (.bipush 20, 2) := by decide +kernel
theorem dX9_join_83 : decode cX9_join 83 = .ok (.if_icmp .le 7, 3) := by decide +kernel
theorem dX9_join_86 : decode cX9_join 86 = .ok (.iconst 1, 1) := by decide +kernel
theorem dX9_join_87 : decode cX9_join 87 = .ok (.goto 4, 3) := by decide +kernel
theorem dX9_join_90 : decode cX9_join 90 = .ok (.iconst 0, 1) := by decide +kernel
theorem dX9_join_91 : decode cX9_join 91 = .ok (.istore 6, 2) := by decide +kernel
theorem dX9_join_93 : decode cX9_join 93 = .ok (.aload_n 0, 1) := by decide +kernel
theorem dX9_join_94 : decode cX9_join 94 = .ok (.iload 4, 2) := by decide +kernel
theorem dX9_join_96 : decode cX9_join 96 = .ok (.ifCond .ne 7, 3) := by decide +kernel
theorem dX9_join_99 : decode cX9_join 99 = .ok (.iconst 1, 1) := by decide +kernel
theorem dX9_join_100 : decode cX9_join 100 = .ok (.goto 22, 3) := by decide +kernel
theorem dX9_join_103 : decode cX9_join 103 = .ok (.iload 5, 2) := by decide +kernel
theorem dX9_join_105 : decode cX9_join 105 = .ok (.ifCond .ne 7, 3) := by decide +kernel
theorem dX9_join_108 : decode cX9_join 108 = .ok (.iconst 2, 1) := by decide +kernel
theorem dX9_join_109 : decode cX9_join 109 = .ok (.goto 13, 3) := by decide +kernel
theorem dX9_join_112 : decode cX9_join 112 = .ok (.iload 6, 2) := by decide +kernel
theorem dX9_join_114 : decode cX9_join 114 = .ok (.ifCond .eq 7, 3) := by decide +kernel
theorem dX9_join_117 : decode cX9_join 117 = .ok (.iconst 3, 1) := by decide +kernel
theorem dX9_join_118 : decode cX9_join 118 = .ok (.goto 4, 3) := by decide +kernel
theorem dX9_join_121 : decode cX9_join 121 = .ok (.iconst 0, 1) := by decide +kernel
theorem dX9_join_122 : decode cX9_join 122 = .ok (.invokevirtual 127, 3) := by decide +kernel
theorem dX9_join_125 : decode cX9_join 125 = .ok (.ifCond .eq 28, 3) := by decide +kernel
theorem dX9_join_128 : decode cX9_join 128 = .ok (.aload_n 0, 1) := by decide +kernel
theorem dX9_join_129 : decode cX9_join 129 = .ok (.iload_n 1, 1) := by decide +kernel
theorem dX9_join_130 : decode cX9_join 130 = .ok (.iload_n 2, 1) := by decide +kernel
theorem dX9_join_131 : decode cX9_join 131 = .ok (.iload_n 3, 1) := by decide +kernel
theorem dX9_join_132 : decode cX9_join 132 = .ok (.iconst 0, 1) := by decide +kernel
theorem dX9_join_133 : decode cX9_join 133 = .ok (.iconst 0, 1) := by decide +kernel
theorem dX9_join_134 : decode cX9_join 134 = .ok (.aload_n 0, 1) := by decide +kernel
theorem dX9_join_135 : decode cX9_join 135 = .ok (.getfield 81, 3) := by decide +kernel
theorem dX9_join_138 : decode cX9_join 138 = .ok (.iload_n 2, 1) := by decide +kernel
theorem dX9_join_139 : decode cX9_join 139 = .ok (.iaload, 1) := by decide +kernel
theorem dX9_join_140 : decode cX9_join 140 = .ok (.aload_n 0, 1) := by decide +kernel
theorem dX9_join_141 : decode cX9_join 141 = .ok (.getfield 81, 3) := by decide +kernel
theorem dX9_join_144 : decode cX9_join 144 = .ok (.iload_n 3, 1) := by decide +kernel
theorem dX9_join_145 : decode cX9_join 145 = .ok (.iaload, 1) := by decide +kernel
theorem dX9_join_146 : decode cX9_join 146 = .ok (.iadd, 1) := by decide +kernel
theorem dX9_join_147 : decode cX9_join 147 = .ok (.invokevirtual 215, 3) := by decide +kernel
theorem dX9_join_150 : decode cX9_join 150 = .ok (.goto 4, 3) := by decide +kernel
theorem dX9_join_153 : decode cX9_join 153 = .ok (.iconst 0, 1) := by decide +kernel
theorem dX9_join_154 : decode cX9_join 154 = .ok (.ireturn, 1) := by decide +kernel
theorem dX9_isLeaf_0 : decode cX9_isLeaf 0 = .ok (.aload_n 0, 1) := by decide +kernel
theorem dX9_isLeaf_1 : decode cX9_isLeaf 1 = .ok (.getfield 66, 3) := by decide +kernel
theorem dX9_isLeaf_4 : decode cX9_isLeaf 4 = .ok (.iload_n 1, 1) := by decide +kernel
theorem dX9_isLeaf_5 : decode cX9_isLeaf 5 = .ok (.caload, 1) := by decide +kernel
theorem dX9_isLeaf_6 : decode cX9_isLeaf 6 = .ok (.bipush 119, 2) := by decide +kernel
theorem dX9_isLeaf_8 : decode cX9_isLeaf 8 = .ok (.if_icmp .eq 25, 3) := by decide +kernel
theorem dX9_isLeaf_11 : decode cX9_isLeaf 11 = .ok (.aload_n 0, 1) := by decide +kernel
theorem dX9_isLeaf_12 : decode cX9_isLeaf 12 = .ok (.getfield 66, 3) := by decide +kernel
theorem dX9_isLeaf_15 : decode cX9_isLeaf 15 = .ok (.iload_n 1, 1) := by decide +kernel
theorem dX9_isLeaf_16 : decode cX9_isLeaf 16 = .ok (.caload, 1) := by decide +kernel
theorem dX9_isLeaf_17 : decode cX9_isLeaf 17 = .ok (.bipush 112, 2) := by decide +kernel
theorem dX9_isLeaf_19 : decode cX9_isLeaf 19 = .ok (.if_icmp .eq 14, 3) := by decide +kernel
theorem dX9_isLeaf_22 : decode cX9_isLeaf 22 = .ok (.aload_n 0, 1) := by decide +kernel
theorem dX9_isLeaf_23 : decode cX9_isLeaf 23 = .ok (.getfield 66, 3) := by decide +kernel
theorem dX9_isLeaf_26 : decode cX9_isLeaf 26 = .ok (.iload_n 1, 1) := by decide +kernel
theorem dX9_isLeaf_27 : decode cX9_isLeaf 27 = .ok (.caload, 1) := by decide +kernel
theorem dX9_isLeaf_28 : decode cX9_isLeaf 28 = .ok (.bipush 110, 2) := by decide +kernel
theorem dX9_isLeaf_30 : decode cX9_isLeaf 30 = .ok (.if_icmp .ne 7, 3) := by decide +kernel
theorem dX9_isLeaf_33 : decode cX9_isLeaf 33 = .ok (.iconst 1, 1) := by decide +kernel
theorem dX9_isLeaf_34 : decode cX9_isLeaf 34 = .ok (.goto 4, 3) := by decide +kernel
theorem dX9_isLeaf_37 : decode cX9_isLeaf 37 = .ok (.iconst 0, 1) := by decide +kernel
theorem dX9_isLeaf_38 : decode cX9_isLeaf 38 = .ok (.ireturn, 1) := by decide +kernel
theorem dX9_isAt_0 : decode cX9_isAt 0 = .ok (.aload_n 0, 1) := by decide +kernel
theorem dX9_isAt_1 : decode cX9_isAt 1 = .ok (.iload_n 1, 1) := by decide +kernel
theorem dX9_isAt_2 : decode cX9_isAt 2 = .ok (.iload_n 2, 1) := by decide +kernel
theorem dX9_isAt_3 : decode cX9_isAt 3 = .ok (.iload_n 3, 1) := by decide +kernel
theorem dX9_isAt_4 : decode cX9_isAt 4 = .ok (.invokevirtual 173, 3) := by decide +kernel
theorem dX9_isAt_7 : decode cX9_isAt 7 = .ok (.ifCond .le 7, 3) := by decide +kernel
theorem dX9_isAt_10 : decode cX9_isAt 10 = .ok (.iconst 1, 1) := by decide +kernel
theorem dX9_isAt_11 : decode cX9_isAt 11 = .ok (.goto 4, 3) := by decide +kernel
theorem dX9_isAt_14 : decode cX9_isAt 14 = .ok (.iconst 0, 1) := by decide +kernel
theorem dX9_isAt_15 : decode cX9_isAt 15 = .ok (.ireturn, 1) := by decide +kernel
theorem dX9_isFirstAt_0 : decode cX9_isFirstAt 0 = .ok (.iconst 1, 1) := by decide +kernel
theorem dX9_isFirstAt_1 : decode cX9_isFirstAt 1 = .ok (.istore_n 3, 1) := by decide +kernel
theorem dX9_isFirstAt_2 : decode cX9_isFirstAt 2 = .ok (.iconst 0, 1) := by decide +kernel
theorem dX9_isFirstAt_3 : decode cX9_isFirstAt 3 = .ok (.istore 4, 2) := by decide +kernel
theorem dX9_isFirstAt_5 : decode cX9_isFirstAt 5 = .ok (.iload 4, 2) := by decide +kernel
theorem dX9_isFirstAt_7 : decode cX9_isFirstAt 7 = .ok (.iload_n 2, 1) := by decide +kernel
theorem dX9_isFirstAt_8 : decode cX9_isFirstAt 8 = .ok (.if_icmp .ge 45, 3) := by decide +kernel
theorem dX9_isFirstAt_11 : decode cX9_isFirstAt 11 = .ok (.iload_n 3, 1) := by decide +kernel
theorem dX9_isFirstAt_12 : decode cX9_isFirstAt 12 = .ok (.ifCond .eq 33, 3) := by decide +kernel
theorem dX9_isFirstAt_15 : decode cX9_isFirstAt 15 = .ok (.aload_n 0, 1) := by decide +kernel
theorem dX9_isFirstAt_16 : decode cX9_isFirstAt 16 = .ok (.getfield 41, 3) := by decide +kernel
theorem dX9_isFirstAt_19 : decode cX9_isFirstAt 19 = .ok (.bipush 96, 2) := by decide +kernel
theorem dX9_isFirstAt_21 : decode cX9_isFirstAt 21 = .ok (.iload_n 1, 1) := by decide +kernel
theorem dX9_isFirstAt_22 : decode cX9_isFirstAt 22 = .ok (.imul, 1) := by decide +kernel
theorem dX9_isFirstAt_23 : decode cX9_isFirstAt 23 = .ok (.iload 4, 2) := by decide +kernel
theorem dX9_isFirstAt_25 : decode cX9_isFirstAt 25 = .ok (.iadd, 1) := by decide +kernel
theorem dX9_isFirstAt_26 : decode cX9_isFirstAt 26 = .ok (.iaload, 1) := by decide +kernel
theorem dX9_isFirstAt_27 : decode cX9_isFirstAt 27 = .ok (.aload_n 0, 1) := by decide +kernel
theorem dX9_isFirstAt_28 : decode cX9_isFirstAt 28 = .ok (.getfield 41, 3) := by decide +kernel
theorem dX9_isFirstAt_31 : decode cX9_isFirstAt 31 = .ok (.bipush 96, 2) := by decide +kernel
theorem dX9_isFirstAt_33 : decode cX9_isFirstAt 33 = .ok (.iload_n 1, 1) := by decide +kernel
theorem dX9_isFirstAt_34 : decode cX9_isFirstAt 34 = .ok (.imul, 1) := by decide +kernel
theorem dX9_isFirstAt_35 : decode cX9_isFirstAt 35 = .ok (.iload_n 2, 1) := by decide +kernel
theorem dX9_isFirstAt_36 : decode cX9_isFirstAt 36 = .ok (.iadd, 1) := by decide +kernel
theorem dX9_isFirstAt_37 : decode cX9_isFirstAt 37 = .ok (.iaload, 1) := by decide +kernel
theorem dX9_isFirstAt_38 : decode cX9_isFirstAt 38 = .ok (.if_icmp .eq 7, 3) := by decide +kernel
theorem dX9_isFirstAt_41 : decode cX9_isFirstAt 41 = .ok (.iconst 1, 1) := by decide +kernel
theorem dX9_isFirstAt_42 : decode cX9_isFirstAt 42 = .ok (.goto 4, 3) := by decide +kernel
theorem dX9_isFirstAt_45 : decode cX9_isFirstAt 45 = .ok (.iconst 0, 1) := by decide +kernel
theorem dX9_isFirstAt_46 : decode cX9_isFirstAt 46 = .ok (.istore_n 3, 1) := by decide +kernel
theorem dX9_isFirstAt_47 : decode cX9_isFirstAt 47 = .ok (.iinc 4 1, 3) := by decide +kernel
theorem dX9_isFirstAt_50 : decode cX9_isFirstAt 50 = .ok (.goto (-45), 3) := by decide +kernel
theorem dX9_isFirstAt_53 : decode cX9_isFirstAt 53 = .ok (.iload_n 3, 1) := by decide +kernel
theorem dX9_isFirstAt_54 : decode cX9_isFirstAt 54 = .ok (.ireturn, 1) := by decide +kernel
theorem dX9_times_0 : decode cX9_times 0 = .ok (.iconst 0, 1) := by decide +kernel
theorem dX9_times_1 : decode cX9_times 1 = .ok (.istore_n 3, 1) := by decide +kernel
theorem dX9_times_2 : decode cX9_times 2 = .ok (.iconst 0, 1) := by decide +kernel
theorem dX9_times_3 : decode cX9_times 3 = .ok (.istore 4, 2) := by decide +kernel
theorem dX9_times_5 : decode cX9_times 5 = .ok (.iload 4, 2) := by decide +kernel
theorem dX9_times_7 : decode cX9_times 7 = .ok (.aload_n 0, 1) := by decide +kernel
theorem dX9_times_8 : decode cX9_times 8 = .ok (.getfield 35, 3) := by decide +kernel
theorem dX9_times_11 : decode cX9_times 11 = .ok (.iload_n 2, 1) := by decide +kernel
theorem dX9_times_12 : decode cX9_times 12 = .ok (.iaload, 1) := by decide +kernel
theorem dX9_times_13 : decode cX9_times 13 = .ok (.if_icmp .ge 133, 3) := by decide +kernel
theorem dX9_times_16 : decode cX9_times 16 = .ok (.aload_n 0, 1) := by decide +kernel
theorem dX9_times_17 : decode cX9_times 17 = .ok (.getfield 41, 3) := by decide +kernel
theorem dX9_times_20 : decode cX9_times 20 = .ok (.bipush 96, 2) := by decide +kernel
theorem dX9_times_22 : decode cX9_times 22 = .ok (.iload_n 2, 1) := by decide +kernel
theorem dX9_times_23 : decode cX9_times 23 = .ok (.imul, 1) := by decide +kernel
theorem dX9_times_24 : decode cX9_times 24 = .ok (.iload 4, 2) := by decide +kernel
theorem dX9_times_26 : decode cX9_times 26 = .ok (.iadd, 1) := by decide +kernel
theorem dX9_times_27 : decode cX9_times 27 = .ok (.iaload, 1) := by decide +kernel
theorem dX9_times_28 : decode cX9_times 28 = .ok (.istore 5, 2) := by decide +kernel
theorem dX9_times_30 : decode cX9_times 30 = .ok (.aload_n 0, 1) := by decide +kernel
theorem dX9_times_31 : decode cX9_times 31 = .ok (.iload_n 2, 1) := by decide +kernel
theorem dX9_times_32 : decode cX9_times 32 = .ok (.iload 4, 2) := by decide +kernel
theorem dX9_times_34 : decode cX9_times 34 = .ok (.invokevirtual 222, 3) := by decide +kernel
theorem dX9_times_37 : decode cX9_times 37 = .ok (.ifCond .ne 6, 3) := by decide +kernel
theorem dX9_times_40 : decode cX9_times 40 = .ok (.goto 100, 3) := by decide +kernel
theorem dX9_times_43 : decode cX9_times 43 = .ok (.aload_n 0, 1) := by decide +kernel
theorem dX9_times_44 : decode cX9_times 44 = .ok (.getfield 66, 3) := by decide +kernel
theorem dX9_times_47 : decode cX9_times 47 = .ok (.iload_n 1, 1) := by decide +kernel
theorem dX9_times_48 : decode cX9_times 48 = .ok (.caload, 1) := by decide +kernel
theorem dX9_times_49 : decode cX9_times 49 = .ok (.bipush 119, 2) := by decide +kernel
theorem dX9_times_51 : decode cX9_times 51 = .ok (.if_icmp .ne 22, 3) := by decide +kernel
theorem dX9_times_54 : decode cX9_times 54 = .ok (.iload_n 3, 1) := by decide +kernel
theorem dX9_times_55 : decode cX9_times 55 = .ok (.aload_n 0, 1) := by decide +kernel
theorem dX9_times_56 : decode cX9_times 56 = .ok (.iload_n 2, 1) := by decide +kernel
theorem dX9_times_57 : decode cX9_times 57 = .ok (.iload 5, 2) := by decide +kernel
theorem dX9_times_59 : decode cX9_times 59 = .ok (.aload_n 0, 1) := by decide +kernel
theorem dX9_times_60 : decode cX9_times 60 = .ok (.getfield 69, 3) := by decide +kernel
theorem dX9_times_63 : decode cX9_times 63 = .ok (.iload_n 1, 1) := by decide +kernel
theorem dX9_times_64 : decode cX9_times 64 = .ok (.iaload, 1) := by decide +kernel
theorem dX9_times_65 : decode cX9_times 65 = .ok (.invokevirtual 173, 3) := by decide +kernel
theorem dX9_times_68 : decode cX9_times 68 = .ok (.iadd, 1) := by decide +kernel
theorem dX9_times_69 : decode cX9_times 69 = .ok (.istore_n 3, 1) := by decide +kernel
theorem dX9_times_70 : decode cX9_times 70 = .ok (.goto 70, 3) := by decide +kernel
theorem dX9_times_73 : decode cX9_times 73 = .ok (.aload_n 0, 1) := by decide +kernel
theorem dX9_times_74 : decode cX9_times 74 = .ok (.getfield 66, 3) := by decide +kernel
theorem dX9_times_77 : decode cX9_times 77 = .ok (.iload_n 1, 1) := by decide +kernel
theorem dX9_times_78 : decode cX9_times 78 = .ok (.caload, 1) := by decide +kernel
theorem dX9_times_79 : decode cX9_times 79 = .ok (.bipush 112, 2) := by decide +kernel
theorem dX9_times_81 : decode cX9_times 81 = .ok (.if_icmp .ne 48, 3) := by decide +kernel
theorem dX9_times_84 : decode cX9_times 84 = .ok (.iload_n 3, 1) := by decide +kernel
theorem dX9_times_85 : decode cX9_times 85 = .ok (.aload_n 0, 1) := by decide +kernel
theorem dX9_times_86 : decode cX9_times 86 = .ok (.iload_n 2, 1) := by decide +kernel
theorem dX9_times_87 : decode cX9_times 87 = .ok (.iload 5, 2) := by decide +kernel
theorem dX9_times_89 : decode cX9_times 89 = .ok (.aload_n 0, 1) := by decide +kernel
theorem dX9_times_90 : decode cX9_times 90 = .ok (.getfield 69, 3) := by decide +kernel
theorem dX9_times_93 : decode cX9_times 93 = .ok (.iload_n 1, 1) := by decide +kernel
theorem dX9_times_94 : decode cX9_times 94 = .ok (.iaload, 1) := by decide +kernel
theorem dX9_times_95 : decode cX9_times 95 = .ok (.invokevirtual 225, 3) := by decide +kernel
theorem dX9_times_98 : decode cX9_times 98 = .ok (.ifCond .eq 25, 3) := by decide +kernel
theorem dX9_times_101 : decode cX9_times 101 = .ok (.aload_n 0, 1) := by decide +kernel
theorem dX9_times_102 : decode cX9_times 102 = .ok (.iload_n 2, 1) := by decide +kernel
theorem dX9_times_103 : decode cX9_times 103 = .ok (.iload 5, 2) := by decide +kernel
theorem dX9_times_105 : decode cX9_times 105 = .ok (.iconst 1, 1) := by decide +kernel
theorem dX9_times_106 : decode cX9_times 106 = .ok (.iadd, 1) := by decide +kernel
theorem dX9_times_107 : decode cX9_times 107 = .ok (.aload_n 0, 1) := by decide +kernel
theorem dX9_times_108 : decode cX9_times 108 = .ok (.getfield 72, 3) := by decide +kernel
theorem dX9_times_111 : decode cX9_times 111 = .ok (.iload_n 1, 1) := by decide +kernel
theorem dX9_times_112 : decode cX9_times 112 = .ok (.iaload, 1) := by decide +kernel
theorem dX9_times_113 : decode cX9_times 113 = .ok (.invokevirtual 225, 3) := by decide +kernel
theorem dX9_times_116 : decode cX9_times 116 = .ok (.ifCond .eq 7, 3) := by decide +kernel
theorem dX9_times_119 : decode cX9_times 119 = .ok (.iconst 1, 1) := by decide +kernel
theorem dX9_times_120 : decode cX9_times 120 = .ok (.goto 4, 3) := by decide +kernel
theorem dX9_times_123 : decode cX9_times 123 = .ok (.iconst 0, 1) := by decide +kernel
theorem dX9_times_124 : decode cX9_times 124 = .ok (.iadd, 1) := by decide +kernel
theorem dX9_times_125 : decode cX9_times 125 = .ok (.istore_n 3, 1) := by decide +kernel
theorem dX9_times_126 : decode cX9_times 126 = .ok (.goto 14, 3) := by decide +kernel
theorem dX9_times_129 : decode cX9_times 129 = .ok (.iload_n 3, 1) := by decide +kernel
theorem dX9_times_130 : decode cX9_times 130 = .ok (.aload_n 0, 1) := by decide +kernel
theorem dX9_times_131 : decode cX9_times 131 = .ok (.iload_n 1, 1) := by decide +kernel
theorem dX9_times_132 : decode cX9_times 132 = .ok (.iload_n 2, 1) := by decide +kernel
theorem dX9_times_133 : decode cX9_times 133 = .ok (.iload 5, 2) := by decide +kernel
theorem dX9_times_135 : decode cX9_times 135 = .ok (.invokevirtual 228, 3) := by decide +kernel
theorem dX9_times_138 : decode cX9_times 138 = .ok (.iadd, 1) := by decide +kernel
theorem dX9_times_139 : decode cX9_times 139 = .ok (.istore_n 3, 1) := by decide +kernel
theorem dX9_times_140 : decode cX9_times 140 = .ok (.iinc 4 1, 3) := by decide +kernel
theorem dX9_times_143 : decode cX9_times 143 = .ok (.goto (-138), 3) := by decide +kernel
theorem dX9_times_146 : decode cX9_times 146 = .ok (.iload_n 3, 1) := by decide +kernel
theorem dX9_times_147 : decode cX9_times 147 = .ok (.ireturn, 1) := by decide +kernel
theorem dX9_near_0 : decode cX9_near 0 = .ok (.iconst 0, 1) := by decide +kernel
theorem dX9_near_1 : decode cX9_near 1 = .ok (.istore 4, 2) := by decide +kernel
theorem dX9_near_3 : decode cX9_near 3 = .ok (.iload_n 3, 1) := by decide +kernel
theorem dX9_near_4 : decode cX9_near 4 = .ok (.aload_n 0, 1) := by decide +kernel
theorem dX9_near_5 : decode cX9_near 5 = .ok (.getfield 75, 3) := by decide +kernel
theorem dX9_near_8 : decode cX9_near 8 = .ok (.iload_n 1, 1) := by decide +kernel
theorem dX9_near_9 : decode cX9_near 9 = .ok (.iaload, 1) := by decide +kernel
theorem dX9_near_10 : decode cX9_near 10 = .ok (.isub, 1) := by decide +kernel
theorem dX9_near_11 : decode cX9_near 11 = .ok (.istore 5, 2) := by decide +kernel
theorem dX9_near_13 : decode cX9_near 13 = .ok (.iload 5, 2) := by decide +kernel
theorem dX9_near_15 : decode cX9_near 15 = .ok (.iload_n 3, 1) := by decide +kernel
theorem dX9_near_16 : decode cX9_near 16 = .ok (.aload_n 0, 1) := by decide +kernel
theorem dX9_near_17 : decode cX9_near 17 = .ok (.getfield 75, 3) := by decide +kernel
theorem dX9_near_20 : decode cX9_near 20 = .ok (.iload_n 1, 1) := by decide +kernel
theorem dX9_near_21 : decode cX9_near 21 = .ok (.iaload, 1) := by decide +kernel
theorem dX9_near_22 : decode cX9_near 22 = .ok (.iadd, 1) := by decide +kernel
theorem dX9_near_23 : decode cX9_near 23 = .ok (.if_icmp .gt 56, 3) := by decide +kernel
theorem dX9_near_26 : decode cX9_near 26 = .ok (.aload_n 0, 1) := by decide +kernel
theorem dX9_near_27 : decode cX9_near 27 = .ok (.iload_n 2, 1) := by decide +kernel
theorem dX9_near_28 : decode cX9_near 28 = .ok (.iload_n 3, 1) := by decide +kernel
theorem dX9_near_29 : decode cX9_near 29 = .ok (.aload_n 0, 1) := by decide +kernel
theorem dX9_near_30 : decode cX9_near 30 = .ok (.getfield 69, 3) := by decide +kernel
theorem dX9_near_33 : decode cX9_near 33 = .ok (.iload_n 1, 1) := by decide +kernel
theorem dX9_near_34 : decode cX9_near 34 = .ok (.iaload, 1) := by decide +kernel
theorem dX9_near_35 : decode cX9_near 35 = .ok (.invokevirtual 225, 3) := by decide +kernel
theorem dX9_near_38 : decode cX9_near 38 = .ok (.ifCond .eq 41, 3) := by decide +kernel
theorem dX9_near_41 : decode cX9_near 41 = .ok (.iload 4, 2) := by decide +kernel
theorem dX9_near_43 : decode cX9_near 43 = .ok (.iload 5, 2) := by decide +kernel
theorem dX9_near_45 : decode cX9_near 45 = .ok (.iload_n 3, 1) := by decide +kernel
theorem dX9_near_46 : decode cX9_near 46 = .ok (.if_icmp .eq 23, 3) := by decide +kernel
theorem dX9_near_49 : decode cX9_near 49 = .ok (.aload_n 0, 1) := by decide +kernel
theorem dX9_near_50 : decode cX9_near 50 = .ok (.iload_n 2, 1) := by decide +kernel
theorem dX9_near_51 : decode cX9_near 51 = .ok (.iload 5, 2) := by decide +kernel
theorem dX9_near_53 : decode cX9_near 53 = .ok (.aload_n 0, 1) := by decide +kernel
theorem dX9_near_54 : decode cX9_near 54 = .ok (.getfield 72, 3) := by decide +kernel
theorem dX9_near_57 : decode cX9_near 57 = .ok (.iload_n 1, 1) := by decide +kernel
theorem dX9_near_58 : decode cX9_near 58 = .ok (.iaload, 1) := by decide +kernel
theorem dX9_near_59 : decode cX9_near 59 = .ok (.invokevirtual 225, 3) := by decide +kernel
theorem dX9_near_62 : decode cX9_near 62 = .ok (.ifCond .eq 7, 3) := by decide +kernel
theorem dX9_near_65 : decode cX9_near 65 = .ok (.iconst 1, 1) := by decide +kernel
theorem dX9_near_66 : decode cX9_near 66 = .ok (.goto 4, 3) := by decide +kernel
theorem dX9_near_69 : decode cX9_near 69 = .ok (.iconst 0, 1) := by decide +kernel
theorem dX9_near_70 : decode cX9_near 70 = .ok (.iadd, 1) := by decide +kernel
theorem dX9_near_71 : decode cX9_near 71 = .ok (.istore 4, 2) := by decide +kernel
theorem dX9_near_73 : decode cX9_near 73 = .ok (.iinc 5 1, 3) := by decide +kernel
theorem dX9_near_76 : decode cX9_near 76 = .ok (.goto (-63), 3) := by decide +kernel
theorem dX9_near_79 : decode cX9_near 79 = .ok (.iload 4, 2) := by decide +kernel
theorem dX9_near_81 : decode cX9_near 81 = .ok (.ireturn, 1) := by decide +kernel
theorem dX9_matches_0 : decode cX9_matches 0 = .ok (.aload_n 0, 1) := by decide +kernel
theorem dX9_matches_1 : decode cX9_matches 1 = .ok (.getfield 66, 3) := by decide +kernel
theorem dX9_matches_4 : decode cX9_matches 4 = .ok (.iload_n 1, 1) := by decide +kernel
theorem dX9_matches_5 : decode cX9_matches 5 = .ok (.caload, 1) := by decide +kernel
theorem dX9_matches_6 : decode cX9_matches 6 = .ok (.lookupswitch 156 #[(97, 42), (105, 144), (111, 76), (120, 110)], 42) := by decide +kernel
theorem dX9_matches_48 : decode cX9_matches 48 = .ok (.aload_n 0, 1) := by decide +kernel
theorem dX9_matches_49 : decode cX9_matches 49 = .ok (.aload_n 0, 1) := by decide +kernel
theorem dX9_matches_50 : decode cX9_matches 50 = .ok (.getfield 69, 3) := by decide +kernel
theorem dX9_matches_53 : decode cX9_matches 53 = .ok (.iload_n 1, 1) := by decide +kernel
theorem dX9_matches_54 : decode cX9_matches 54 = .ok (.iaload, 1) := by decide +kernel
theorem dX9_matches_55 : decode cX9_matches 55 = .ok (.iload_n 2, 1) := by decide +kernel
theorem dX9_matches_56 : decode cX9_matches 56 = .ok (.invokevirtual 231, 3) := by decide +kernel
theorem dX9_matches_59 : decode cX9_matches 59 = .ok (.ifCond .eq 21, 3) := by decide +kernel
theorem dX9_matches_62 : decode cX9_matches 62 = .ok (.aload_n 0, 1) := by decide +kernel
theorem dX9_matches_63 : decode cX9_matches 63 = .ok (.aload_n 0, 1) := by decide +kernel
theorem dX9_matches_64 : decode cX9_matches 64 = .ok (.getfield 72, 3) := by decide +kernel
theorem dX9_matches_67 : decode cX9_matches 67 = .ok (.iload_n 1, 1) := by decide +kernel
theorem dX9_matches_68 : decode cX9_matches 68 = .ok (.iaload, 1) := by decide +kernel
theorem dX9_matches_69 : decode cX9_matches 69 = .ok (.iload_n 2, 1) := by decide +kernel
theorem dX9_matches_70 : decode cX9_matches 70 = .ok (.invokevirtual 231, 3) := by decide +kernel
theorem dX9_matches_73 : decode cX9_matches 73 = .ok (.ifCond .eq 7, 3) := by decide +kernel
theorem dX9_matches_76 : decode cX9_matches 76 = .ok (.iconst 1, 1) := by decide +kernel
theorem dX9_matches_77 : decode cX9_matches 77 = .ok (.goto 4, 3) := by decide +kernel
theorem dX9_matches_80 : decode cX9_matches 80 = .ok (.iconst 0, 1) := by decide +kernel
theorem dX9_matches_81 : decode cX9_matches 81 = .ok (.ireturn, 1) := by decide +kernel
theorem dX9_matches_82 : decode cX9_matches 82 = .ok (.aload_n 0, 1) := by decide +kernel
theorem dX9_matches_83 : decode cX9_matches 83 = .ok (.aload_n 0, 1) := by decide +kernel
theorem dX9_matches_84 : decode cX9_matches 84 = .ok (.getfield 69, 3) := by decide +kernel
theorem dX9_matches_87 : decode cX9_matches 87 = .ok (.iload_n 1, 1) := by decide +kernel
theorem dX9_matches_88 : decode cX9_matches 88 = .ok (.iaload, 1) := by decide +kernel
theorem dX9_matches_89 : decode cX9_matches 89 = .ok (.iload_n 2, 1) := by decide +kernel
theorem dX9_matches_90 : decode cX9_matches 90 = .ok (.invokevirtual 231, 3) := by decide +kernel
theorem dX9_matches_93 : decode cX9_matches 93 = .ok (.ifCond .ne 17, 3) := by decide +kernel
theorem dX9_matches_96 : decode cX9_matches 96 = .ok (.aload_n 0, 1) := by decide +kernel
theorem dX9_matches_97 : decode cX9_matches 97 = .ok (.aload_n 0, 1) := by decide +kernel
theorem dX9_matches_98 : decode cX9_matches 98 = .ok (.getfield 72, 3) := by decide +kernel
theorem dX9_matches_101 : decode cX9_matches 101 = .ok (.iload_n 1, 1) := by decide +kernel
theorem dX9_matches_102 : decode cX9_matches 102 = .ok (.iaload, 1) := by decide +kernel
theorem dX9_matches_103 : decode cX9_matches 103 = .ok (.iload_n 2, 1) := by decide +kernel
theorem dX9_matches_104 : decode cX9_matches 104 = .ok (.invokevirtual 231, 3) := by decide +kernel
theorem dX9_matches_107 : decode cX9_matches 107 = .ok (.ifCond .eq 7, 3) := by decide +kernel
theorem dX9_matches_110 : decode cX9_matches 110 = .ok (.iconst 1, 1) := by decide +kernel
theorem dX9_matches_111 : decode cX9_matches 111 = .ok (.goto 4, 3) := by decide +kernel
theorem dX9_matches_114 : decode cX9_matches 114 = .ok (.iconst 0, 1) := by decide +kernel
theorem dX9_matches_115 : decode cX9_matches 115 = .ok (.ireturn, 1) := by decide +kernel
theorem dX9_matches_116 : decode cX9_matches 116 = .ok (.aload_n 0, 1) := by decide +kernel
theorem dX9_matches_117 : decode cX9_matches 117 = .ok (.aload_n 0, 1) := by decide +kernel
theorem dX9_matches_118 : decode cX9_matches 118 = .ok (.getfield 69, 3) := by decide +kernel
theorem dX9_matches_121 : decode cX9_matches 121 = .ok (.iload_n 1, 1) := by decide +kernel
theorem dX9_matches_122 : decode cX9_matches 122 = .ok (.iaload, 1) := by decide +kernel
theorem dX9_matches_123 : decode cX9_matches 123 = .ok (.iload_n 2, 1) := by decide +kernel
theorem dX9_matches_124 : decode cX9_matches 124 = .ok (.invokevirtual 231, 3) := by decide +kernel
theorem dX9_matches_127 : decode cX9_matches 127 = .ok (.ifCond .eq 21, 3) := by decide +kernel
theorem dX9_matches_130 : decode cX9_matches 130 = .ok (.aload_n 0, 1) := by decide +kernel
theorem dX9_matches_131 : decode cX9_matches 131 = .ok (.aload_n 0, 1) := by decide +kernel
theorem dX9_matches_132 : decode cX9_matches 132 = .ok (.getfield 72, 3) := by decide +kernel
theorem dX9_matches_135 : decode cX9_matches 135 = .ok (.iload_n 1, 1) := by decide +kernel
theorem dX9_matches_136 : decode cX9_matches 136 = .ok (.iaload, 1) := by decide +kernel
theorem dX9_matches_137 : decode cX9_matches 137 = .ok (.iload_n 2, 1) := by decide +kernel
theorem dX9_matches_138 : decode cX9_matches 138 = .ok (.invokevirtual 231, 3) := by decide +kernel
theorem dX9_matches_141 : decode cX9_matches 141 = .ok (.ifCond .ne 7, 3) := by decide +kernel
theorem dX9_matches_144 : decode cX9_matches 144 = .ok (.iconst 1, 1) := by decide +kernel
theorem dX9_matches_145 : decode cX9_matches 145 = .ok (.goto 4, 3) := by decide +kernel
theorem dX9_matches_148 : decode cX9_matches 148 = .ok (.iconst 0, 1) := by decide +kernel
theorem dX9_matches_149 : decode cX9_matches 149 = .ok (.ireturn, 1) := by decide +kernel
theorem dX9_matches_150 : decode cX9_matches 150 = .ok (.aload_n 0, 1) := by decide +kernel
theorem dX9_matches_151 : decode cX9_matches 151 = .ok (.aload_n 0, 1) := by decide +kernel
theorem dX9_matches_152 : decode cX9_matches 152 = .ok (.getfield 69, 3) := by decide +kernel
theorem dX9_matches_155 : decode cX9_matches 155 = .ok (.iload_n 1, 1) := by decide +kernel
theorem dX9_matches_156 : decode cX9_matches 156 = .ok (.iaload, 1) := by decide +kernel
theorem dX9_matches_157 : decode cX9_matches 157 = .ok (.iload_n 2, 1) := by decide +kernel
theorem dX9_matches_158 : decode cX9_matches 158 = .ok (.invokevirtual 231, 3) := by decide +kernel
theorem dX9_matches_161 : decode cX9_matches 161 = .ok (.ireturn, 1) := by decide +kernel
theorem dX9_matches_162 : decode cX9_matches 162 = .ok (.aload_n 0, 1) := by decide +kernel
theorem dX9_matches_163 : decode cX9_matches 163 = .ok (.iload_n 1, 1) := by decide +kernel
theorem dX9_matches_164 : decode cX9_matches 164 = .ok (.iload_n 2, 1) := by decide +kernel
theorem dX9_matches_165 : decode cX9_matches 165 = .ok (.invokevirtual 234, 3) := by decide +kernel
theorem dX9_matches_168 : decode cX9_matches 168 = .ok (.ifCond .le 7, 3) := by decide +kernel
theorem dX9_matches_171 : decode cX9_matches 171 = .ok (.iconst 1, 1) := by decide +kernel
theorem dX9_matches_172 : decode cX9_matches 172 = .ok (.goto 4, 3) := by decide +kernel
theorem dX9_matches_175 : decode cX9_matches 175 = .ok (.iconst 0, 1) := by decide +kernel
theorem dX9_matches_176 : decode cX9_matches 176 = .ok (.ireturn, 1) := by decide +kernel
theorem dX9_beginsCounts_0 : decode cX9_beginsCounts 0 = .ok (.iconst 0, 1) := by decide +kernel
theorem dX9_beginsCounts_1 : decode cX9_beginsCounts 1 = .ok (.istore_n 1, 1) := by decide +kernel
theorem dX9_beginsCounts_2 : decode cX9_beginsCounts 2 = .ok (.iload_n 1, 1) := by decide +kernel
theorem dX9_beginsCounts_3 : decode cX9_beginsCounts 3 = .ok (.bipush 40, 2) := by decide +kernel
theorem dX9_beginsCounts_5 : decode cX9_beginsCounts 5 = .ok (.if_icmp .ge 16, 3) := by decide +kernel
theorem dX9_beginsCounts_8 : decode cX9_beginsCounts 8 = .ok (.aload_n 0, 1) := by decide +kernel
theorem dX9_beginsCounts_9 : decode cX9_beginsCounts 9 = .ok (.getfield 96, 3) := by decide +kernel
theorem dX9_beginsCounts_12 : decode cX9_beginsCounts 12 = .ok (.iload_n 1, 1) := by decide +kernel
theorem dX9_beginsCounts_13 : decode cX9_beginsCounts 13 = .ok (.iconst (-1), 1) := by decide +kernel
theorem dX9_beginsCounts_14 : decode cX9_beginsCounts 14 = .ok (.iastore, 1) := by decide +kernel
theorem dX9_beginsCounts_15 : decode cX9_beginsCounts 15 = .ok (.iinc 1 1, 3) := by decide +kernel
theorem dX9_beginsCounts_18 : decode cX9_beginsCounts 18 = .ok (.goto (-16), 3) := by decide +kernel
theorem dX9_beginsCounts_21 : decode cX9_beginsCounts 21 = .ok (.return_, 1) := by decide +kernel
theorem dX9_leafScore_0 : decode cX9_leafScore 0 = .ok (.aload_n 0, 1) := by decide +kernel
theorem dX9_leafScore_1 : decode cX9_leafScore 1 = .ok (.iload_n 1, 1) := by decide +kernel
theorem dX9_leafScore_2 : decode cX9_leafScore 2 = .ok (.invokevirtual 209, 3) := by decide +kernel
theorem dX9_leafScore_5 : decode cX9_leafScore 5 = .ok (.i2l, 1) := by decide +kernel
theorem dX9_leafScore_6 : decode cX9_leafScore 6 = .ok (.lstore 4, 2) := by decide +kernel
theorem dX9_leafScore_8 : decode cX9_leafScore 8 = .ok (.aload_n 0, 1) := by decide +kernel
theorem dX9_leafScore_9 : decode cX9_leafScore 9 = .ok (.getfield 96, 3) := by decide +kernel
theorem dX9_leafScore_12 : decode cX9_leafScore 12 = .ok (.iload_n 2, 1) := by decide +kernel
theorem dX9_leafScore_13 : decode cX9_leafScore 13 = .ok (.iaload, 1) := by decide +kernel
theorem dX9_leafScore_14 : decode cX9_leafScore 14 = .ok (.iconst (-1), 1) := by decide +kernel
theorem dX9_leafScore_15 : decode cX9_leafScore 15 = .ok (.if_icmp .ne 67, 3) := by decide +kernel
theorem dX9_leafScore_18 : decode cX9_leafScore 18 = .ok (.aload_n 0, 1) := by decide +kernel
theorem dX9_leafScore_19 : decode cX9_leafScore 19 = .ok (.getfield 96, 3) := by decide +kernel
theorem dX9_leafScore_22 : decode cX9_leafScore 22 = .ok (.iload_n 2, 1) := by decide +kernel
theorem dX9_leafScore_23 : decode cX9_leafScore 23 = .ok (.iconst 0, 1) := by decide +kernel
theorem dX9_leafScore_24 : decode cX9_leafScore 24 = .ok (.iastore, 1) := by decide +kernel
theorem dX9_leafScore_25 : decode cX9_leafScore 25 = .ok (.iconst 0, 1) := by decide +kernel
theorem dX9_leafScore_26 : decode cX9_leafScore 26 = .ok (.istore 6, 2) := by decide +kernel
theorem dX9_leafScore_28 : decode cX9_leafScore 28 = .ok (.iload 6, 2) := by decide +kernel
theorem dX9_leafScore_30 : decode cX9_leafScore 30 = .ok (.aload_n 0, 1) := by decide +kernel
theorem dX9_leafScore_31 : decode cX9_leafScore 31 = .ok (.getfield 117, 3) := by decide +kernel
theorem dX9_leafScore_34 : decode cX9_leafScore 34 = .ok (.if_icmp .ge 48, 3) := by decide +kernel
theorem dX9_leafScore_37 : decode cX9_leafScore 37 = .ok (.aload_n 0, 1) := by decide +kernel
theorem dX9_leafScore_38 : decode cX9_leafScore 38 = .ok (.getfield 96, 3) := by decide +kernel
theorem dX9_leafScore_41 : decode cX9_leafScore 41 = .ok (.iload_n 2, 1) := by decide +kernel
theorem dX9_leafScore_42 : decode cX9_leafScore 42 = .ok (.dup2, 1) := by decide +kernel
theorem dX9_leafScore_43 : decode cX9_leafScore 43 = .ok (.iaload, 1) := by decide +kernel
theorem dX9_leafScore_44 : decode cX9_leafScore 44 = .ok (.aload_n 0, 1) := by decide +kernel
theorem dX9_leafScore_45 : decode cX9_leafScore 45 = .ok (.getfield 63, 3) := by decide +kernel
theorem dX9_leafScore_48 : decode cX9_leafScore 48 = .ok (.bipush 30, 2) := by decide +kernel
theorem dX9_leafScore_50 : decode cX9_leafScore 50 = .ok (.iload_n 1, 1) := by decide +kernel
theorem dX9_leafScore_51 : decode cX9_leafScore 51 = .ok (.imul, 1) := by decide +kernel
theorem dX9_leafScore_52 : decode cX9_leafScore 52 = .ok (.iload 6, 2) := by decide +kernel
theorem dX9_leafScore_54 : decode cX9_leafScore 54 = .ok (.iadd, 1) := by decide +kernel
theorem dX9_leafScore_55 : decode cX9_leafScore 55 = .ok (.baload, 1) := by decide +kernel
theorem dX9_leafScore_56 : decode cX9_leafScore 56 = .ok (.ifCond .eq 17, 3) := by decide +kernel
theorem dX9_leafScore_59 : decode cX9_leafScore 59 = .ok (.aload_n 0, 1) := by decide +kernel
theorem dX9_leafScore_60 : decode cX9_leafScore 60 = .ok (.iload_n 2, 1) := by decide +kernel
theorem dX9_leafScore_61 : decode cX9_leafScore 61 = .ok (.iload 6, 2) := by decide +kernel
theorem dX9_leafScore_63 : decode cX9_leafScore 63 = .ok (.invokevirtual 234, 3) := by decide +kernel
theorem dX9_leafScore_66 : decode cX9_leafScore 66 = .ok (.ifCond .le 7, 3) := by decide +kernel
theorem dX9_leafScore_69 : decode cX9_leafScore 69 = .ok (.iconst 1, 1) := by decide +kernel
theorem dX9_leafScore_70 : decode cX9_leafScore 70 = .ok (.goto 4, 3) := by decide +kernel
theorem dX9_leafScore_73 : decode cX9_leafScore 73 = .ok (.iconst 0, 1) := by decide +kernel
theorem dX9_leafScore_74 : decode cX9_leafScore 74 = .ok (.iadd, 1) := by decide +kernel
theorem dX9_leafScore_75 : decode cX9_leafScore 75 = .ok (.iastore, 1) := by decide +kernel
theorem dX9_leafScore_76 : decode cX9_leafScore 76 = .ok (.iinc 6 1, 3) := by decide +kernel
theorem dX9_leafScore_79 : decode cX9_leafScore 79 = .ok (.goto (-51), 3) := by decide +kernel
theorem dX9_leafScore_82 : decode cX9_leafScore 82 = .ok (.aload_n 0, 1) := by decide +kernel
theorem dX9_leafScore_83 : decode cX9_leafScore 83 = .ok (.getfield 96, 3) := by decide +kernel
theorem dX9_leafScore_86 : decode cX9_leafScore 86 = .ok (.iload_n 2, 1) := by decide +kernel
theorem dX9_leafScore_87 : decode cX9_leafScore 87 = .ok (.iaload, 1) := by decide +kernel
theorem dX9_leafScore_88 : decode cX9_leafScore 88 = .ok (.i2l, 1) := by decide +kernel
theorem dX9_leafScore_89 : decode cX9_leafScore 89 = .ok (.lstore 6, 2) := by decide +kernel
theorem dX9_leafScore_91 : decode cX9_leafScore 91 = .ok (.ldc2_w 237, 3) := by decide +kernel
theorem dX9_leafScore_94 : decode cX9_leafScore 94 = .ok (.aload_n 0, 1) := by decide +kernel
theorem dX9_leafScore_95 : decode cX9_leafScore 95 = .ok (.iload_n 2, 1) := by decide +kernel
theorem dX9_leafScore_96 : decode cX9_leafScore 96 = .ok (.iload_n 3, 1) := by decide +kernel
theorem dX9_leafScore_97 : decode cX9_leafScore 97 = .ok (.invokevirtual 234, 3) := by decide +kernel
theorem dX9_leafScore_100 : decode cX9_leafScore 100 = .ok (.i2l, 1) := by decide +kernel
theorem dX9_leafScore_101 : decode cX9_leafScore 101 = .ok (.lmul, 1) := by decide +kernel
theorem dX9_leafScore_102 : decode cX9_leafScore 102 = .ok (.lload 4, 2) := by decide +kernel
theorem dX9_leafScore_104 : decode cX9_leafScore 104 = .ok (.lconst 1, 1) := by decide +kernel
theorem dX9_leafScore_105 : decode cX9_leafScore 105 = .ok (.ladd, 1) := by decide +kernel
theorem dX9_leafScore_106 : decode cX9_leafScore 106 = .ok (.lmul, 1) := by decide +kernel
theorem dX9_leafScore_107 : decode cX9_leafScore 107 = .ok (.lload 6, 2) := by decide +kernel
theorem dX9_leafScore_109 : decode cX9_leafScore 109 = .ok (.lconst 1, 1) := by decide +kernel
theorem dX9_leafScore_110 : decode cX9_leafScore 110 = .ok (.ladd, 1) := by decide +kernel
theorem dX9_leafScore_111 : decode cX9_leafScore 111 = .ok (.aload_n 0, 1) := by decide +kernel
theorem dX9_leafScore_112 : decode cX9_leafScore 112 = .ok (.getfield 35, 3) := by decide +kernel
theorem dX9_leafScore_115 : decode cX9_leafScore 115 = .ok (.iload_n 3, 1) := by decide +kernel
theorem dX9_leafScore_116 : decode cX9_leafScore 116 = .ok (.iaload, 1) := by decide +kernel
theorem dX9_leafScore_117 : decode cX9_leafScore 117 = .ok (.i2l, 1) := by decide +kernel
theorem dX9_leafScore_118 : decode cX9_leafScore 118 = .ok (.ldc2_w 239, 3) := by decide +kernel
theorem dX9_leafScore_121 : decode cX9_leafScore 121 = .ok (.ladd, 1) := by decide +kernel
theorem dX9_leafScore_122 : decode cX9_leafScore 122 = .ok (.lmul, 1) := by decide +kernel
theorem dX9_leafScore_123 : decode cX9_leafScore 123 = .ok (.ldiv, 1) := by decide +kernel
theorem dX9_leafScore_124 : decode cX9_leafScore 124 = .ok (.aload_n 0, 1) := by decide +kernel
theorem dX9_leafScore_125 : decode cX9_leafScore 125 = .ok (.getfield 78, 3) := by decide +kernel
theorem dX9_leafScore_128 : decode cX9_leafScore 128 = .ok (.iload_n 2, 1) := by decide +kernel
theorem dX9_leafScore_129 : decode cX9_leafScore 129 = .ok (.iaload, 1) := by decide +kernel
theorem dX9_leafScore_130 : decode cX9_leafScore 130 = .ok (.i2l, 1) := by decide +kernel
theorem dX9_leafScore_131 : decode cX9_leafScore 131 = .ok (.lmul, 1) := by decide +kernel
theorem dX9_leafScore_132 : decode cX9_leafScore 132 = .ok (.lreturn, 1) := by decide +kernel
theorem dX9_scoreOf_0 : decode cX9_scoreOf 0 = .ok (.aload_n 0, 1) := by decide +kernel
theorem dX9_scoreOf_1 : decode cX9_scoreOf 1 = .ok (.iload_n 2, 1) := by decide +kernel
theorem dX9_scoreOf_2 : decode cX9_scoreOf 2 = .ok (.invokevirtual 241, 3) := by decide +kernel
theorem dX9_scoreOf_5 : decode cX9_scoreOf 5 = .ok (.ifCond .eq 11, 3) := by decide +kernel
theorem dX9_scoreOf_8 : decode cX9_scoreOf 8 = .ok (.aload_n 0, 1) := by decide +kernel
theorem dX9_scoreOf_9 : decode cX9_scoreOf 9 = .ok (.iload_n 1, 1) := by decide +kernel
theorem dX9_scoreOf_10 : decode cX9_scoreOf 10 = .ok (.iload_n 2, 1) := by decide +kernel
theorem dX9_scoreOf_11 : decode cX9_scoreOf 11 = .ok (.iload_n 3, 1) := by decide +kernel
theorem dX9_scoreOf_12 : decode cX9_scoreOf 12 = .ok (.invokevirtual 244, 3) := by decide +kernel
theorem dX9_scoreOf_15 : decode cX9_scoreOf 15 = .ok (.lreturn, 1) := by decide +kernel
theorem dX9_scoreOf_16 : decode cX9_scoreOf 16 = .ok (.aload_n 0, 1) := by decide +kernel
theorem dX9_scoreOf_17 : decode cX9_scoreOf 17 = .ok (.aload_n 0, 1) := by decide +kernel
theorem dX9_scoreOf_18 : decode cX9_scoreOf 18 = .ok (.getfield 69, 3) := by decide +kernel
theorem dX9_scoreOf_21 : decode cX9_scoreOf 21 = .ok (.iload_n 2, 1) := by decide +kernel
theorem dX9_scoreOf_22 : decode cX9_scoreOf 22 = .ok (.iaload, 1) := by decide +kernel
theorem dX9_scoreOf_23 : decode cX9_scoreOf 23 = .ok (.iload_n 3, 1) := by decide +kernel
theorem dX9_scoreOf_24 : decode cX9_scoreOf 24 = .ok (.invokevirtual 231, 3) := by decide +kernel
theorem dX9_scoreOf_27 : decode cX9_scoreOf 27 = .ok (.istore 4, 2) := by decide +kernel
theorem dX9_scoreOf_29 : decode cX9_scoreOf 29 = .ok (.aload_n 0, 1) := by decide +kernel
theorem dX9_scoreOf_30 : decode cX9_scoreOf 30 = .ok (.getfield 66, 3) := by decide +kernel
theorem dX9_scoreOf_33 : decode cX9_scoreOf 33 = .ok (.iload_n 2, 1) := by decide +kernel
theorem dX9_scoreOf_34 : decode cX9_scoreOf 34 = .ok (.caload, 1) := by decide +kernel
theorem dX9_scoreOf_35 : decode cX9_scoreOf 35 = .ok (.bipush 120, 2) := by decide +kernel
theorem dX9_scoreOf_37 : decode cX9_scoreOf 37 = .ok (.if_icmp .eq 21, 3) := by decide +kernel
theorem dX9_scoreOf_40 : decode cX9_scoreOf 40 = .ok (.aload_n 0, 1) := by decide +kernel
theorem dX9_scoreOf_41 : decode cX9_scoreOf 41 = .ok (.aload_n 0, 1) := by decide +kernel
theorem dX9_scoreOf_42 : decode cX9_scoreOf 42 = .ok (.getfield 72, 3) := by decide +kernel
theorem dX9_scoreOf_45 : decode cX9_scoreOf 45 = .ok (.iload_n 2, 1) := by decide +kernel
theorem dX9_scoreOf_46 : decode cX9_scoreOf 46 = .ok (.iaload, 1) := by decide +kernel
theorem dX9_scoreOf_47 : decode cX9_scoreOf 47 = .ok (.iload_n 3, 1) := by decide +kernel
theorem dX9_scoreOf_48 : decode cX9_scoreOf 48 = .ok (.invokevirtual 231, 3) := by decide +kernel
theorem dX9_scoreOf_51 : decode cX9_scoreOf 51 = .ok (.ifCond .eq 7, 3) := by decide +kernel
theorem dX9_scoreOf_54 : decode cX9_scoreOf 54 = .ok (.iconst 1, 1) := by decide +kernel
theorem dX9_scoreOf_55 : decode cX9_scoreOf 55 = .ok (.goto 4, 3) := by decide +kernel
theorem dX9_scoreOf_58 : decode cX9_scoreOf 58 = .ok (.iconst 0, 1) := by decide +kernel
theorem dX9_scoreOf_59 : decode cX9_scoreOf 59 = .ok (.istore 5, 2) := by decide +kernel
theorem dX9_scoreOf_61 : decode cX9_scoreOf 61 = .ok (.iload 4, 2) := by decide +kernel
theorem dX9_scoreOf_63 : decode cX9_scoreOf 63 = .ok (.ifCond .eq 18, 3) := by decide +kernel
theorem dX9_scoreOf_66 : decode cX9_scoreOf 66 = .ok (.aload_n 0, 1) := by decide +kernel
theorem dX9_scoreOf_67 : decode cX9_scoreOf 67 = .ok (.iload_n 1, 1) := by decide +kernel
theorem dX9_scoreOf_68 : decode cX9_scoreOf 68 = .ok (.aload_n 0, 1) := by decide +kernel
theorem dX9_scoreOf_69 : decode cX9_scoreOf 69 = .ok (.getfield 69, 3) := by decide +kernel
theorem dX9_scoreOf_72 : decode cX9_scoreOf 72 = .ok (.iload_n 2, 1) := by decide +kernel
theorem dX9_scoreOf_73 : decode cX9_scoreOf 73 = .ok (.iaload, 1) := by decide +kernel
theorem dX9_scoreOf_74 : decode cX9_scoreOf 74 = .ok (.iload_n 3, 1) := by decide +kernel
theorem dX9_scoreOf_75 : decode cX9_scoreOf 75 = .ok (.invokevirtual 248, 3) := by decide +kernel
theorem dX9_scoreOf_78 : decode cX9_scoreOf 78 = .ok (.goto 4, 3) := by decide +kernel
theorem dX9_scoreOf_81 : decode cX9_scoreOf 81 = .ok (.lconst 0, 1) := by decide +kernel
theorem dX9_scoreOf_82 : decode cX9_scoreOf 82 = .ok (.iload 5, 2) := by decide +kernel
theorem dX9_scoreOf_84 : decode cX9_scoreOf 84 = .ok (.ifCond .eq 18, 3) := by decide +kernel
theorem dX9_scoreOf_87 : decode cX9_scoreOf 87 = .ok (.aload_n 0, 1) := by decide +kernel
theorem dX9_scoreOf_88 : decode cX9_scoreOf 88 = .ok (.iload_n 1, 1) := by decide +kernel
theorem dX9_scoreOf_89 : decode cX9_scoreOf 89 = .ok (.aload_n 0, 1) := by decide +kernel
theorem dX9_scoreOf_90 : decode cX9_scoreOf 90 = .ok (.getfield 72, 3) := by decide +kernel
theorem dX9_scoreOf_93 : decode cX9_scoreOf 93 = .ok (.iload_n 2, 1) := by decide +kernel
theorem dX9_scoreOf_94 : decode cX9_scoreOf 94 = .ok (.iaload, 1) := by decide +kernel
theorem dX9_scoreOf_95 : decode cX9_scoreOf 95 = .ok (.iload_n 3, 1) := by decide +kernel
theorem dX9_scoreOf_96 : decode cX9_scoreOf 96 = .ok (.invokevirtual 248, 3) := by decide +kernel
theorem dX9_scoreOf_99 : decode cX9_scoreOf 99 = .ok (.goto 4, 3) := by decide +kernel
theorem dX9_scoreOf_102 : decode cX9_scoreOf 102 = .ok (.lconst 0, 1) := by decide +kernel
theorem dX9_scoreOf_103 : decode cX9_scoreOf 103 = .ok (.ladd, 1) := by decide +kernel
theorem dX9_scoreOf_104 : decode cX9_scoreOf 104 = .ok (.lreturn, 1) := by decide +kernel
theorem dX9_rank_0 : decode cX9_rank 0 = .ok (.aload_n 0, 1) := by decide +kernel
theorem dX9_rank_1 : decode cX9_rank 1 = .ok (.getfield 32, 3) := by decide +kernel
theorem dX9_rank_4 : decode cX9_rank 4 = .ok (.aload_n 0, 1) := by decide +kernel
theorem dX9_rank_5 : decode cX9_rank 5 = .ok (.getfield 99, 3) := by decide +kernel
theorem dX9_rank_8 : decode cX9_rank 8 = .ok (.iload_n 1, 1) := by decide +kernel
theorem dX9_rank_9 : decode cX9_rank 9 = .ok (.iaload, 1) := by decide +kernel
theorem dX9_rank_10 : decode cX9_rank 10 = .ok (.iaload, 1) := by decide +kernel
theorem dX9_rank_11 : decode cX9_rank 11 = .ok (.istore_n 2, 1) := by decide +kernel
theorem dX9_rank_12 : decode cX9_rank 12 = .ok (.aload_n 0, 1) := by decide +kernel
theorem dX9_rank_13 : decode cX9_rank 13 = .ok (.getfield 102, 3) := by decide +kernel
theorem dX9_rank_16 : decode cX9_rank 16 = .ok (.iload_n 1, 1) := by decide +kernel
theorem dX9_rank_17 : decode cX9_rank 17 = .ok (.laload, 1) := by decide +kernel
theorem dX9_rank_18 : decode cX9_rank 18 = .ok (.iload_n 2, 1) := by decide +kernel
theorem dX9_rank_19 : decode cX9_rank 19 = .ok (.aload_n 0, 1) := by decide +kernel
theorem dX9_rank_20 : decode cX9_rank 20 = .ok (.getfield 251, 3) := by decide +kernel
theorem dX9_rank_23 : decode cX9_rank 23 = .ok (.if_icmp .le 10, 3) := by decide +kernel
theorem dX9_rank_26 : decode cX9_rank 26 = .ok (.aload_n 0, 1) := by decide +kernel
theorem dX9_rank_27 : decode cX9_rank 27 = .ok (.getfield 251, 3) := by decide +kernel
theorem dX9_rank_30 : decode cX9_rank 30 = .ok (.goto 4, 3) := by decide +kernel
theorem dX9_rank_33 : decode cX9_rank 33 = .ok (.iload_n 2, 1) := by decide +kernel
theorem dX9_rank_34 : decode cX9_rank 34 = .ok (.i2l, 1) := by decide +kernel
theorem dX9_rank_35 : decode cX9_rank 35 = .ok (.ladd, 1) := by decide +kernel
theorem dX9_rank_36 : decode cX9_rank 36 = .ok (.lreturn, 1) := by decide +kernel
theorem dX9_findsHits_0 : decode cX9_findsHits 0 = .ok (.aload_n 0, 1) := by decide +kernel
theorem dX9_findsHits_1 : decode cX9_findsHits 1 = .ok (.iconst 0, 1) := by decide +kernel
theorem dX9_findsHits_2 : decode cX9_findsHits 2 = .ok (.putfield 254, 3) := by decide +kernel
theorem dX9_findsHits_5 : decode cX9_findsHits 5 = .ok (.aload_n 0, 1) := by decide +kernel
theorem dX9_findsHits_6 : decode cX9_findsHits 6 = .ok (.invokevirtual 257, 3) := by decide +kernel
theorem dX9_findsHits_9 : decode cX9_findsHits 9 = .ok (.iconst 0, 1) := by decide +kernel
theorem dX9_findsHits_10 : decode cX9_findsHits 10 = .ok (.istore_n 3, 1) := by decide +kernel
theorem dX9_findsHits_11 : decode cX9_findsHits 11 = .ok (.iload_n 3, 1) := by decide +kernel
theorem dX9_findsHits_12 : decode cX9_findsHits 12 = .ok (.aload_n 0, 1) := by decide +kernel
theorem dX9_findsHits_13 : decode cX9_findsHits 13 = .ok (.getfield 117, 3) := by decide +kernel
theorem dX9_findsHits_16 : decode cX9_findsHits 16 = .ok (.if_icmp .ge 180, 3) := by decide +kernel
theorem dX9_findsHits_19 : decode cX9_findsHits 19 = .ok (.aload_n 0, 1) := by decide +kernel
theorem dX9_findsHits_20 : decode cX9_findsHits 20 = .ok (.getfield 63, 3) := by decide +kernel
theorem dX9_findsHits_23 : decode cX9_findsHits 23 = .ok (.bipush 30, 2) := by decide +kernel
theorem dX9_findsHits_25 : decode cX9_findsHits 25 = .ok (.iload_n 1, 1) := by decide +kernel
theorem dX9_findsHits_26 : decode cX9_findsHits 26 = .ok (.imul, 1) := by decide +kernel
theorem dX9_findsHits_27 : decode cX9_findsHits 27 = .ok (.iload_n 3, 1) := by decide +kernel
theorem dX9_findsHits_28 : decode cX9_findsHits 28 = .ok (.iadd, 1) := by decide +kernel
theorem dX9_findsHits_29 : decode cX9_findsHits 29 = .ok (.baload, 1) := by decide +kernel
theorem dX9_findsHits_30 : decode cX9_findsHits 30 = .ok (.ifCond .eq 160, 3) := by decide +kernel
theorem dX9_findsHits_33 : decode cX9_findsHits 33 = .ok (.aload_n 0, 1) := by decide +kernel
theorem dX9_findsHits_34 : decode cX9_findsHits 34 = .ok (.iload_n 2, 1) := by decide +kernel
theorem dX9_findsHits_35 : decode cX9_findsHits 35 = .ok (.iload_n 3, 1) := by decide +kernel
theorem dX9_findsHits_36 : decode cX9_findsHits 36 = .ok (.invokevirtual 231, 3) := by decide +kernel
theorem dX9_findsHits_39 : decode cX9_findsHits 39 = .ok (.ifCond .ne 6, 3) := by decide +kernel
theorem dX9_findsHits_42 : decode cX9_findsHits 42 = .ok (.goto 148, 3) := by decide +kernel
theorem dX9_findsHits_45 : decode cX9_findsHits 45 = .ok (.aload_n 0, 1) := by decide +kernel
theorem dX9_findsHits_46 : decode cX9_findsHits 46 = .ok (.getfield 99, 3) := by decide +kernel
theorem dX9_findsHits_49 : decode cX9_findsHits 49 = .ok (.aload_n 0, 1) := by decide +kernel
theorem dX9_findsHits_50 : decode cX9_findsHits 50 = .ok (.getfield 254, 3) := by decide +kernel
theorem dX9_findsHits_53 : decode cX9_findsHits 53 = .ok (.iload_n 3, 1) := by decide +kernel
theorem dX9_findsHits_54 : decode cX9_findsHits 54 = .ok (.iastore, 1) := by decide +kernel
theorem dX9_findsHits_55 : decode cX9_findsHits 55 = .ok (.aload_n 0, 1) := by decide +kernel
theorem dX9_findsHits_56 : decode cX9_findsHits 56 = .ok (.getfield 102, 3) := by decide +kernel
theorem dX9_findsHits_59 : decode cX9_findsHits 59 = .ok (.aload_n 0, 1) := by decide +kernel
theorem dX9_findsHits_60 : decode cX9_findsHits 60 = .ok (.getfield 254, 3) := by decide +kernel
theorem dX9_findsHits_63 : decode cX9_findsHits 63 = .ok (.aload_n 0, 1) := by decide +kernel
theorem dX9_findsHits_64 : decode cX9_findsHits 64 = .ok (.iload_n 1, 1) := by decide +kernel
theorem dX9_findsHits_65 : decode cX9_findsHits 65 = .ok (.iload_n 2, 1) := by decide +kernel
theorem dX9_findsHits_66 : decode cX9_findsHits 66 = .ok (.iload_n 3, 1) := by decide +kernel
theorem dX9_findsHits_67 : decode cX9_findsHits 67 = .ok (.invokevirtual 248, 3) := by decide +kernel
theorem dX9_findsHits_70 : decode cX9_findsHits 70 = .ok (.lastore, 1) := by decide +kernel
theorem dX9_findsHits_71 : decode cX9_findsHits 71 = .ok (.aload_n 0, 1) := by decide +kernel
theorem dX9_findsHits_72 : decode cX9_findsHits 72 = .ok (.dup, 1) := by decide +kernel
theorem dX9_findsHits_73 : decode cX9_findsHits 73 = .ok (.getfield 254, 3) := by decide +kernel
theorem dX9_findsHits_76 : decode cX9_findsHits 76 = .ok (.iconst 1, 1) := by decide +kernel
theorem dX9_findsHits_77 : decode cX9_findsHits 77 = .ok (.iadd, 1) := by decide +kernel
theorem dX9_findsHits_78 : decode cX9_findsHits 78 = .ok (.putfield 254, 3) := by decide +kernel
theorem dX9_findsHits_81 : decode cX9_findsHits 81 = .ok (.aload_n 0, 1) := by decide +kernel
theorem dX9_findsHits_82 : decode cX9_findsHits 82 = .ok (.getfield 254, 3) := by decide +kernel
theorem dX9_findsHits_85 : decode cX9_findsHits 85 = .ok (.iconst 1, 1) := by decide +kernel
theorem dX9_findsHits_86 : decode cX9_findsHits 86 = .ok (.isub, 1) := by decide +kernel
theorem dX9_findsHits_87 : decode cX9_findsHits 87 = .ok (.istore 4, 2) := by decide +kernel
theorem dX9_findsHits_89 : decode cX9_findsHits 89 = .ok (.iload 4, 2) := by decide +kernel
theorem dX9_findsHits_91 : decode cX9_findsHits 91 = .ok (.ifCond .le 99, 3) := by decide +kernel
theorem dX9_findsHits_94 : decode cX9_findsHits 94 = .ok (.aload_n 0, 1) := by decide +kernel
theorem dX9_findsHits_95 : decode cX9_findsHits 95 = .ok (.iload 4, 2) := by decide +kernel
theorem dX9_findsHits_97 : decode cX9_findsHits 97 = .ok (.invokevirtual 260, 3) := by decide +kernel
theorem dX9_findsHits_100 : decode cX9_findsHits 100 = .ok (.aload_n 0, 1) := by decide +kernel
theorem dX9_findsHits_101 : decode cX9_findsHits 101 = .ok (.iload 4, 2) := by decide +kernel
theorem dX9_findsHits_103 : decode cX9_findsHits 103 = .ok (.iconst 1, 1) := by decide +kernel
theorem dX9_findsHits_104 : decode cX9_findsHits 104 = .ok (.isub, 1) := by decide +kernel
theorem dX9_findsHits_105 : decode cX9_findsHits 105 = .ok (.invokevirtual 260, 3) := by decide +kernel
theorem dX9_findsHits_108 : decode cX9_findsHits 108 = .ok (.lcmp, 1) := by decide +kernel
theorem dX9_findsHits_109 : decode cX9_findsHits 109 = .ok (.ifCond .le 81, 3) := by decide +kernel
theorem dX9_findsHits_112 : decode cX9_findsHits 112 = .ok (.aload_n 0, 1) := by decide +kernel
theorem dX9_findsHits_113 : decode cX9_findsHits 113 = .ok (.getfield 99, 3) := by decide +kernel
theorem dX9_findsHits_116 : decode cX9_findsHits 116 = .ok (.iload 4, 2) := by decide +kernel
theorem dX9_findsHits_118 : decode cX9_findsHits 118 = .ok (.iaload, 1) := by decide +kernel
theorem dX9_findsHits_119 : decode cX9_findsHits 119 = .ok (.istore 5, 2) := by decide +kernel
theorem dX9_findsHits_121 : decode cX9_findsHits 121 = .ok (.aload_n 0, 1) := by decide +kernel
theorem dX9_findsHits_122 : decode cX9_findsHits 122 = .ok (.getfield 99, 3) := by decide +kernel
theorem dX9_findsHits_125 : decode cX9_findsHits 125 = .ok (.iload 4, 2) := by decide +kernel
theorem dX9_findsHits_127 : decode cX9_findsHits 127 = .ok (.aload_n 0, 1) := by decide +kernel
theorem dX9_findsHits_128 : decode cX9_findsHits 128 = .ok (.getfield 99, 3) := by decide +kernel
theorem dX9_findsHits_131 : decode cX9_findsHits 131 = .ok (.iload 4, 2) := by decide +kernel
theorem dX9_findsHits_133 : decode cX9_findsHits 133 = .ok (.iconst 1, 1) := by decide +kernel
theorem dX9_findsHits_134 : decode cX9_findsHits 134 = .ok (.isub, 1) := by decide +kernel
theorem dX9_findsHits_135 : decode cX9_findsHits 135 = .ok (.iaload, 1) := by decide +kernel
theorem dX9_findsHits_136 : decode cX9_findsHits 136 = .ok (.iastore, 1) := by decide +kernel
theorem dX9_findsHits_137 : decode cX9_findsHits 137 = .ok (.aload_n 0, 1) := by decide +kernel
theorem dX9_findsHits_138 : decode cX9_findsHits 138 = .ok (.getfield 99, 3) := by decide +kernel
theorem dX9_findsHits_141 : decode cX9_findsHits 141 = .ok (.iload 4, 2) := by decide +kernel
theorem dX9_findsHits_143 : decode cX9_findsHits 143 = .ok (.iconst 1, 1) := by decide +kernel
theorem dX9_findsHits_144 : decode cX9_findsHits 144 = .ok (.isub, 1) := by decide +kernel
theorem dX9_findsHits_145 : decode cX9_findsHits 145 = .ok (.iload 5, 2) := by decide +kernel
theorem dX9_findsHits_147 : decode cX9_findsHits 147 = .ok (.iastore, 1) := by decide +kernel
theorem dX9_findsHits_148 : decode cX9_findsHits 148 = .ok (.aload_n 0, 1) := by decide +kernel
theorem dX9_findsHits_149 : decode cX9_findsHits 149 = .ok (.getfield 102, 3) := by decide +kernel
theorem dX9_findsHits_152 : decode cX9_findsHits 152 = .ok (.iload 4, 2) := by decide +kernel
theorem dX9_findsHits_154 : decode cX9_findsHits 154 = .ok (.laload, 1) := by decide +kernel
theorem dX9_findsHits_155 : decode cX9_findsHits 155 = .ok (.lstore 6, 2) := by decide +kernel
theorem dX9_findsHits_157 : decode cX9_findsHits 157 = .ok (.aload_n 0, 1) := by decide +kernel
theorem dX9_findsHits_158 : decode cX9_findsHits 158 = .ok (.getfield 102, 3) := by decide +kernel
theorem dX9_findsHits_161 : decode cX9_findsHits 161 = .ok (.iload 4, 2) := by decide +kernel
theorem dX9_findsHits_163 : decode cX9_findsHits 163 = .ok (.aload_n 0, 1) := by decide +kernel
theorem dX9_findsHits_164 : decode cX9_findsHits 164 = .ok (.getfield 102, 3) := by decide +kernel
theorem dX9_findsHits_167 : decode cX9_findsHits 167 = .ok (.iload 4, 2) := by decide +kernel
theorem dX9_findsHits_169 : decode cX9_findsHits 169 = .ok (.iconst 1, 1) := by decide +kernel
theorem dX9_findsHits_170 : decode cX9_findsHits 170 = .ok (.isub, 1) := by decide +kernel
theorem dX9_findsHits_171 : decode cX9_findsHits 171 = .ok (.laload, 1) := by decide +kernel
theorem dX9_findsHits_172 : decode cX9_findsHits 172 = .ok (.lastore, 1) := by decide +kernel
theorem dX9_findsHits_173 : decode cX9_findsHits 173 = .ok (.aload_n 0, 1) := by decide +kernel
theorem dX9_findsHits_174 : decode cX9_findsHits 174 = .ok (.getfield 102, 3) := by decide +kernel
theorem dX9_findsHits_177 : decode cX9_findsHits 177 = .ok (.iload 4, 2) := by decide +kernel
theorem dX9_findsHits_179 : decode cX9_findsHits 179 = .ok (.iconst 1, 1) := by decide +kernel
theorem dX9_findsHits_180 : decode cX9_findsHits 180 = .ok (.isub, 1) := by decide +kernel
theorem dX9_findsHits_181 : decode cX9_findsHits 181 = .ok (.lload 6, 2) := by decide +kernel
theorem dX9_findsHits_183 : decode cX9_findsHits 183 = .ok (.lastore, 1) := by decide +kernel
theorem dX9_findsHits_184 : decode cX9_findsHits 184 = .ok (.iinc 4 (-1), 3) := by decide +kernel
theorem dX9_findsHits_187 : decode cX9_findsHits 187 = .ok (.goto (-98), 3) := by decide +kernel
theorem dX9_findsHits_190 : decode cX9_findsHits 190 = .ok (.iinc 3 1, 3) := by decide +kernel
theorem dX9_findsHits_193 : decode cX9_findsHits 193 = .ok (.goto (-182), 3) := by decide +kernel
theorem dX9_findsHits_196 : decode cX9_findsHits 196 = .ok (.return_, 1) := by decide +kernel
theorem dX9_hitFault_0 : decode cX9_hitFault 0 = .ok (.aload_n 0, 1) := by decide +kernel
theorem dX9_hitFault_1 : decode cX9_hitFault 1 = .ok (.iload_n 1, 1) := by decide +kernel
theorem dX9_hitFault_2 : decode cX9_hitFault 2 = .ok (.invokevirtual 206, 3) := by decide +kernel
theorem dX9_hitFault_5 : decode cX9_hitFault 5 = .ok (.istore_n 3, 1) := by decide +kernel
theorem dX9_hitFault_6 : decode cX9_hitFault 6 = .ok (.iload_n 3, 1) := by decide +kernel
theorem dX9_hitFault_7 : decode cX9_hitFault 7 = .ok (.iconst (-1), 1) := by decide +kernel
theorem dX9_hitFault_8 : decode cX9_hitFault 8 = .ok (.if_icmp .eq 11, 3) := by decide +kernel
theorem dX9_hitFault_11 : decode cX9_hitFault 11 = .ok (.aload_n 0, 1) := by decide +kernel
theorem dX9_hitFault_12 : decode cX9_hitFault 12 = .ok (.iload_n 2, 1) := by decide +kernel
theorem dX9_hitFault_13 : decode cX9_hitFault 13 = .ok (.invokevirtual 219, 3) := by decide +kernel
theorem dX9_hitFault_16 : decode cX9_hitFault 16 = .ok (.ifCond .ne 5, 3) := by decide +kernel
theorem dX9_hitFault_19 : decode cX9_hitFault 19 = .ok (.iconst 1, 1) := by decide +kernel
theorem dX9_hitFault_20 : decode cX9_hitFault 20 = .ok (.ireturn, 1) := by decide +kernel
theorem dX9_hitFault_21 : decode cX9_hitFault 21 = .ok (.aload_n 0, 1) := by decide +kernel
theorem dX9_hitFault_22 : decode cX9_hitFault 22 = .ok (.iload_n 3, 1) := by decide +kernel
theorem dX9_hitFault_23 : decode cX9_hitFault 23 = .ok (.iload_n 2, 1) := by decide +kernel
theorem dX9_hitFault_24 : decode cX9_hitFault 24 = .ok (.invokevirtual 264, 3) := by decide +kernel
theorem dX9_hitFault_27 : decode cX9_hitFault 27 = .ok (.iconst 0, 1) := by decide +kernel
theorem dX9_hitFault_28 : decode cX9_hitFault 28 = .ok (.ireturn, 1) := by decide +kernel
theorem dX9_hits_0 : decode cX9_hits 0 = .ok (.aload_n 0, 1) := by decide +kernel
theorem dX9_hits_1 : decode cX9_hits 1 = .ok (.aload_n 0, 1) := by decide +kernel
theorem dX9_hits_2 : decode cX9_hits 2 = .ok (.iload_n 1, 1) := by decide +kernel
theorem dX9_hits_3 : decode cX9_hits 3 = .ok (.iload_n 2, 1) := by decide +kernel
theorem dX9_hits_4 : decode cX9_hits 4 = .ok (.invokevirtual 267, 3) := by decide +kernel
theorem dX9_hits_7 : decode cX9_hits 7 = .ok (.invokevirtual 127, 3) := by decide +kernel
theorem dX9_hits_10 : decode cX9_hits 10 = .ok (.ifCond .eq 10, 3) := by decide +kernel
theorem dX9_hits_13 : decode cX9_hits 13 = .ok (.aload_n 0, 1) := by decide +kernel
theorem dX9_hits_14 : decode cX9_hits 14 = .ok (.getfield 254, 3) := by decide +kernel
theorem dX9_hits_17 : decode cX9_hits 17 = .ok (.goto 4, 3) := by decide +kernel
theorem dX9_hits_20 : decode cX9_hits 20 = .ok (.iconst 0, 1) := by decide +kernel
theorem dX9_hits_21 : decode cX9_hits 21 = .ok (.ireturn, 1) := by decide +kernel
theorem dX9_indexFault_0 : decode cX9_indexFault 0 = .ok (.aload_n 0, 1) := by decide +kernel
theorem dX9_indexFault_1 : decode cX9_indexFault 1 = .ok (.iload_n 1, 1) := by decide +kernel
theorem dX9_indexFault_2 : decode cX9_indexFault 2 = .ok (.iload_n 2, 1) := by decide +kernel
theorem dX9_indexFault_3 : decode cX9_indexFault 3 = .ok (.invokevirtual 267, 3) := by decide +kernel
theorem dX9_indexFault_6 : decode cX9_indexFault 6 = .ok (.istore 4, 2) := by decide +kernel
theorem dX9_indexFault_8 : decode cX9_indexFault 8 = .ok (.iload 4, 2) := by decide +kernel
theorem dX9_indexFault_10 : decode cX9_indexFault 10 = .ok (.ifCond .ne 21, 3) := by decide +kernel
theorem dX9_indexFault_13 : decode cX9_indexFault 13 = .ok (.iload_n 3, 1) := by decide +kernel
theorem dX9_indexFault_14 : decode cX9_indexFault 14 = .ok (.iconst 0, 1) := by decide +kernel
theorem dX9_indexFault_15 : decode cX9_indexFault 15 = .ok (.aload_n 0, 1) := by decide +kernel
theorem dX9_indexFault_16 : decode cX9_indexFault 16 = .ok (.getfield 254, 3) := by decide +kernel
theorem dX9_indexFault_19 : decode cX9_indexFault 19 = .ok (.iconst 1, 1) := by decide +kernel
theorem dX9_indexFault_20 : decode cX9_indexFault 20 = .ok (.isub, 1) := by decide +kernel
theorem dX9_indexFault_21 : decode cX9_indexFault 21 = .ok (.invokestatic 113, 3) := by decide +kernel
theorem dX9_indexFault_24 : decode cX9_indexFault 24 = .ok (.ifCond .ne 7, 3) := by decide +kernel
theorem dX9_indexFault_27 : decode cX9_indexFault 27 = .ok (.iconst 2, 1) := by decide +kernel
theorem dX9_indexFault_28 : decode cX9_indexFault 28 = .ok (.goto 5, 3) := by decide +kernel
theorem dX9_indexFault_31 : decode cX9_indexFault 31 = .ok (.iload 4, 2) := by decide +kernel
theorem dX9_indexFault_33 : decode cX9_indexFault 33 = .ok (.ireturn, 1) := by decide +kernel
theorem dX9_hit_0 : decode cX9_hit 0 = .ok (.aload_n 0, 1) := by decide +kernel
theorem dX9_hit_1 : decode cX9_hit 1 = .ok (.aload_n 0, 1) := by decide +kernel
theorem dX9_hit_2 : decode cX9_hit 2 = .ok (.iload_n 1, 1) := by decide +kernel
theorem dX9_hit_3 : decode cX9_hit 3 = .ok (.iload_n 2, 1) := by decide +kernel
theorem dX9_hit_4 : decode cX9_hit 4 = .ok (.iload_n 3, 1) := by decide +kernel
theorem dX9_hit_5 : decode cX9_hit 5 = .ok (.invokevirtual 270, 3) := by decide +kernel
theorem dX9_hit_8 : decode cX9_hit 8 = .ok (.invokevirtual 127, 3) := by decide +kernel
theorem dX9_hit_11 : decode cX9_hit 11 = .ok (.ifCond .eq 12, 3) := by decide +kernel
theorem dX9_hit_14 : decode cX9_hit 14 = .ok (.aload_n 0, 1) := by decide +kernel
theorem dX9_hit_15 : decode cX9_hit 15 = .ok (.getfield 99, 3) := by decide +kernel
theorem dX9_hit_18 : decode cX9_hit 18 = .ok (.iload_n 3, 1) := by decide +kernel
theorem dX9_hit_19 : decode cX9_hit 19 = .ok (.iaload, 1) := by decide +kernel
theorem dX9_hit_20 : decode cX9_hit 20 = .ok (.goto 4, 3) := by decide +kernel
theorem dX9_hit_23 : decode cX9_hit 23 = .ok (.iconst 0, 1) := by decide +kernel
theorem dX9_hit_24 : decode cX9_hit 24 = .ok (.ireturn, 1) := by decide +kernel
theorem dX9_score_0 : decode cX9_score 0 = .ok (.aload_n 0, 1) := by decide +kernel
theorem dX9_score_1 : decode cX9_score 1 = .ok (.aload_n 0, 1) := by decide +kernel
theorem dX9_score_2 : decode cX9_score 2 = .ok (.iload_n 1, 1) := by decide +kernel
theorem dX9_score_3 : decode cX9_score 3 = .ok (.iload_n 2, 1) := by decide +kernel
theorem dX9_score_4 : decode cX9_score 4 = .ok (.iload_n 3, 1) := by decide +kernel
theorem dX9_score_5 : decode cX9_score 5 = .ok (.invokevirtual 270, 3) := by decide +kernel
theorem dX9_score_8 : decode cX9_score 8 = .ok (.invokevirtual 127, 3) := by decide +kernel
theorem dX9_score_11 : decode cX9_score 11 = .ok (.ifCond .eq 12, 3) := by decide +kernel
theorem dX9_score_14 : decode cX9_score 14 = .ok (.aload_n 0, 1) := by decide +kernel
theorem dX9_score_15 : decode cX9_score 15 = .ok (.getfield 102, 3) := by decide +kernel
theorem dX9_score_18 : decode cX9_score 18 = .ok (.iload_n 3, 1) := by decide +kernel
theorem dX9_score_19 : decode cX9_score 19 = .ok (.laload, 1) := by decide +kernel
theorem dX9_score_20 : decode cX9_score 20 = .ok (.goto 4, 3) := by decide +kernel
theorem dX9_score_23 : decode cX9_score 23 = .ok (.lconst 0, 1) := by decide +kernel
theorem dX9_score_24 : decode cX9_score 24 = .ok (.lreturn, 1) := by decide +kernel
theorem dX9_isIn_0 : decode cX9_isIn 0 = .ok (.aload_n 0, 1) := by decide +kernel
theorem dX9_isIn_1 : decode cX9_isIn 1 = .ok (.iload_n 1, 1) := by decide +kernel
theorem dX9_isIn_2 : decode cX9_isIn 2 = .ok (.invokevirtual 206, 3) := by decide +kernel
theorem dX9_isIn_5 : decode cX9_isIn 5 = .ok (.iconst (-1), 1) := by decide +kernel
theorem dX9_isIn_6 : decode cX9_isIn 6 = .ok (.if_icmp .eq 33, 3) := by decide +kernel
theorem dX9_isIn_9 : decode cX9_isIn 9 = .ok (.aload_n 0, 1) := by decide +kernel
theorem dX9_isIn_10 : decode cX9_isIn 10 = .ok (.iload_n 2, 1) := by decide +kernel
theorem dX9_isIn_11 : decode cX9_isIn 11 = .ok (.invokevirtual 130, 3) := by decide +kernel
theorem dX9_isIn_14 : decode cX9_isIn 14 = .ok (.ifCond .eq 25, 3) := by decide +kernel
theorem dX9_isIn_17 : decode cX9_isIn 17 = .ok (.aload_n 0, 1) := by decide +kernel
theorem dX9_isIn_18 : decode cX9_isIn 18 = .ok (.getfield 63, 3) := by decide +kernel
theorem dX9_isIn_21 : decode cX9_isIn 21 = .ok (.bipush 30, 2) := by decide +kernel
theorem dX9_isIn_23 : decode cX9_isIn 23 = .ok (.aload_n 0, 1) := by decide +kernel
theorem dX9_isIn_24 : decode cX9_isIn 24 = .ok (.iload_n 1, 1) := by decide +kernel
theorem dX9_isIn_25 : decode cX9_isIn 25 = .ok (.invokevirtual 206, 3) := by decide +kernel
theorem dX9_isIn_28 : decode cX9_isIn 28 = .ok (.imul, 1) := by decide +kernel
theorem dX9_isIn_29 : decode cX9_isIn 29 = .ok (.iload_n 2, 1) := by decide +kernel
theorem dX9_isIn_30 : decode cX9_isIn 30 = .ok (.iadd, 1) := by decide +kernel
theorem dX9_isIn_31 : decode cX9_isIn 31 = .ok (.baload, 1) := by decide +kernel
theorem dX9_isIn_32 : decode cX9_isIn 32 = .ok (.ifCond .eq 7, 3) := by decide +kernel
theorem dX9_isIn_35 : decode cX9_isIn 35 = .ok (.iconst 1, 1) := by decide +kernel
theorem dX9_isIn_36 : decode cX9_isIn 36 = .ok (.goto 4, 3) := by decide +kernel
theorem dX9_isIn_39 : decode cX9_isIn 39 = .ok (.iconst 0, 1) := by decide +kernel
theorem dX9_isIn_40 : decode cX9_isIn 40 = .ok (.ireturn, 1) := by decide +kernel
theorem dX9_scoreAlone_0 : decode cX9_scoreAlone 0 = .ok (.aload_n 0, 1) := by decide +kernel
theorem dX9_scoreAlone_1 : decode cX9_scoreAlone 1 = .ok (.aload_n 0, 1) := by decide +kernel
theorem dX9_scoreAlone_2 : decode cX9_scoreAlone 2 = .ok (.iload_n 1, 1) := by decide +kernel
theorem dX9_scoreAlone_3 : decode cX9_scoreAlone 3 = .ok (.iload_n 3, 1) := by decide +kernel
theorem dX9_scoreAlone_4 : decode cX9_scoreAlone 4 = .ok (.invokevirtual 273, 3) := by decide +kernel
theorem dX9_scoreAlone_7 : decode cX9_scoreAlone 7 = .ok (.ifCond .eq 15, 3) := by decide +kernel
theorem dX9_scoreAlone_10 : decode cX9_scoreAlone 10 = .ok (.aload_n 0, 1) := by decide +kernel
theorem dX9_scoreAlone_11 : decode cX9_scoreAlone 11 = .ok (.iload_n 2, 1) := by decide +kernel
theorem dX9_scoreAlone_12 : decode cX9_scoreAlone 12 = .ok (.invokevirtual 219, 3) := by decide +kernel
theorem dX9_scoreAlone_15 : decode cX9_scoreAlone 15 = .ok (.ifCond .eq 7, 3) := by decide +kernel
theorem dX9_scoreAlone_18 : decode cX9_scoreAlone 18 = .ok (.iconst 0, 1) := by decide +kernel
theorem dX9_scoreAlone_19 : decode cX9_scoreAlone 19 = .ok (.goto 4, 3) := by decide +kernel
theorem dX9_scoreAlone_22 : decode cX9_scoreAlone 22 = .ok (.iconst 1, 1) := by decide +kernel
theorem dX9_scoreAlone_23 : decode cX9_scoreAlone 23 = .ok (.invokevirtual 127, 3) := by decide +kernel
theorem dX9_scoreAlone_26 : decode cX9_scoreAlone 26 = .ok (.ifCond .ne 5, 3) := by decide +kernel
theorem dX9_scoreAlone_29 : decode cX9_scoreAlone 29 = .ok (.lconst 0, 1) := by decide +kernel
theorem dX9_scoreAlone_30 : decode cX9_scoreAlone 30 = .ok (.lreturn, 1) := by decide +kernel
theorem dX9_scoreAlone_31 : decode cX9_scoreAlone 31 = .ok (.aload_n 0, 1) := by decide +kernel
theorem dX9_scoreAlone_32 : decode cX9_scoreAlone 32 = .ok (.invokevirtual 257, 3) := by decide +kernel
theorem dX9_scoreAlone_35 : decode cX9_scoreAlone 35 = .ok (.aload_n 0, 1) := by decide +kernel
theorem dX9_scoreAlone_36 : decode cX9_scoreAlone 36 = .ok (.iload_n 2, 1) := by decide +kernel
theorem dX9_scoreAlone_37 : decode cX9_scoreAlone 37 = .ok (.iload_n 3, 1) := by decide +kernel
theorem dX9_scoreAlone_38 : decode cX9_scoreAlone 38 = .ok (.invokevirtual 231, 3) := by decide +kernel
theorem dX9_scoreAlone_41 : decode cX9_scoreAlone 41 = .ok (.ifCond .eq 17, 3) := by decide +kernel
theorem dX9_scoreAlone_44 : decode cX9_scoreAlone 44 = .ok (.aload_n 0, 1) := by decide +kernel
theorem dX9_scoreAlone_45 : decode cX9_scoreAlone 45 = .ok (.aload_n 0, 1) := by decide +kernel
theorem dX9_scoreAlone_46 : decode cX9_scoreAlone 46 = .ok (.iload_n 1, 1) := by decide +kernel
theorem dX9_scoreAlone_47 : decode cX9_scoreAlone 47 = .ok (.invokevirtual 206, 3) := by decide +kernel
theorem dX9_scoreAlone_50 : decode cX9_scoreAlone 50 = .ok (.iload_n 2, 1) := by decide +kernel
theorem dX9_scoreAlone_51 : decode cX9_scoreAlone 51 = .ok (.iload_n 3, 1) := by decide +kernel
theorem dX9_scoreAlone_52 : decode cX9_scoreAlone 52 = .ok (.invokevirtual 248, 3) := by decide +kernel
theorem dX9_scoreAlone_55 : decode cX9_scoreAlone 55 = .ok (.goto 6, 3) := by decide +kernel
theorem dX9_scoreAlone_58 : decode cX9_scoreAlone 58 = .ok (.ldc2_w 276, 3) := by decide +kernel
theorem dX9_scoreAlone_61 : decode cX9_scoreAlone 61 = .ok (.lreturn, 1) := by decide +kernel
theorem dX9_tagged_0 : decode cX9_tagged 0 = .ok (.aload_n 0, 1) := by decide +kernel
theorem dX9_tagged_1 : decode cX9_tagged 1 = .ok (.iload_n 1, 1) := by decide +kernel
theorem dX9_tagged_2 : decode cX9_tagged 2 = .ok (.iload_n 2, 1) := by decide +kernel
theorem dX9_tagged_3 : decode cX9_tagged 3 = .ok (.invokevirtual 267, 3) := by decide +kernel
theorem dX9_tagged_6 : decode cX9_tagged 6 = .ok (.istore 4, 2) := by decide +kernel
theorem dX9_tagged_8 : decode cX9_tagged 8 = .ok (.aload_n 0, 1) := by decide +kernel
theorem dX9_tagged_9 : decode cX9_tagged 9 = .ok (.iload 4, 2) := by decide +kernel
theorem dX9_tagged_11 : decode cX9_tagged 11 = .ok (.ifCond .ne 16, 3) := by decide +kernel
theorem dX9_tagged_14 : decode cX9_tagged 14 = .ok (.iload_n 3, 1) := by decide +kernel
theorem dX9_tagged_15 : decode cX9_tagged 15 = .ok (.iconst 0, 1) := by decide +kernel
theorem dX9_tagged_16 : decode cX9_tagged 16 = .ok (.iconst 5, 1) := by decide +kernel
theorem dX9_tagged_17 : decode cX9_tagged 17 = .ok (.invokestatic 113, 3) := by decide +kernel
theorem dX9_tagged_20 : decode cX9_tagged 20 = .ok (.ifCond .ne 7, 3) := by decide +kernel
theorem dX9_tagged_23 : decode cX9_tagged 23 = .ok (.iconst 2, 1) := by decide +kernel
theorem dX9_tagged_24 : decode cX9_tagged 24 = .ok (.goto 5, 3) := by decide +kernel
theorem dX9_tagged_27 : decode cX9_tagged 27 = .ok (.iload 4, 2) := by decide +kernel
theorem dX9_tagged_29 : decode cX9_tagged 29 = .ok (.invokevirtual 127, 3) := by decide +kernel
theorem dX9_tagged_32 : decode cX9_tagged 32 = .ok (.ifCond .ne 5, 3) := by decide +kernel
theorem dX9_tagged_35 : decode cX9_tagged 35 = .ok (.iconst 0, 1) := by decide +kernel
theorem dX9_tagged_36 : decode cX9_tagged 36 = .ok (.ireturn, 1) := by decide +kernel
theorem dX9_tagged_37 : decode cX9_tagged 37 = .ok (.iconst 0, 1) := by decide +kernel
theorem dX9_tagged_38 : decode cX9_tagged 38 = .ok (.istore 5, 2) := by decide +kernel
theorem dX9_tagged_40 : decode cX9_tagged 40 = .ok (.iconst 0, 1) := by decide +kernel
theorem dX9_tagged_41 : decode cX9_tagged 41 = .ok (.istore 6, 2) := by decide +kernel
theorem dX9_tagged_43 : decode cX9_tagged 43 = .ok (.iload 6, 2) := by decide +kernel
theorem dX9_tagged_45 : decode cX9_tagged 45 = .ok (.aload_n 0, 1) := by decide +kernel
theorem dX9_tagged_46 : decode cX9_tagged 46 = .ok (.getfield 254, 3) := by decide +kernel
theorem dX9_tagged_49 : decode cX9_tagged 49 = .ok (.if_icmp .ge 35, 3) := by decide +kernel
theorem dX9_tagged_52 : decode cX9_tagged 52 = .ok (.iload 5, 2) := by decide +kernel
theorem dX9_tagged_54 : decode cX9_tagged 54 = .ok (.aload_n 0, 1) := by decide +kernel
theorem dX9_tagged_55 : decode cX9_tagged 55 = .ok (.getfield 26, 3) := by decide +kernel
theorem dX9_tagged_58 : decode cX9_tagged 58 = .ok (.aload_n 0, 1) := by decide +kernel
theorem dX9_tagged_59 : decode cX9_tagged 59 = .ok (.getfield 99, 3) := by decide +kernel
theorem dX9_tagged_62 : decode cX9_tagged 62 = .ok (.iload 6, 2) := by decide +kernel
theorem dX9_tagged_64 : decode cX9_tagged 64 = .ok (.iaload, 1) := by decide +kernel
theorem dX9_tagged_65 : decode cX9_tagged 65 = .ok (.iaload, 1) := by decide +kernel
theorem dX9_tagged_66 : decode cX9_tagged 66 = .ok (.iload_n 3, 1) := by decide +kernel
theorem dX9_tagged_67 : decode cX9_tagged 67 = .ok (.if_icmp .ne 7, 3) := by decide +kernel
theorem dX9_tagged_70 : decode cX9_tagged 70 = .ok (.iconst 1, 1) := by decide +kernel
theorem dX9_tagged_71 : decode cX9_tagged 71 = .ok (.goto 4, 3) := by decide +kernel
theorem dX9_tagged_74 : decode cX9_tagged 74 = .ok (.iconst 0, 1) := by decide +kernel
theorem dX9_tagged_75 : decode cX9_tagged 75 = .ok (.iadd, 1) := by decide +kernel
theorem dX9_tagged_76 : decode cX9_tagged 76 = .ok (.istore 5, 2) := by decide +kernel
theorem dX9_tagged_78 : decode cX9_tagged 78 = .ok (.iinc 6 1, 3) := by decide +kernel
theorem dX9_tagged_81 : decode cX9_tagged 81 = .ok (.goto (-38), 3) := by decide +kernel
theorem dX9_tagged_84 : decode cX9_tagged 84 = .ok (.iload 5, 2) := by decide +kernel
theorem dX9_tagged_86 : decode cX9_tagged 86 = .ok (.ireturn, 1) := by decide +kernel
theorem dX9_firstTagged_0 : decode cX9_firstTagged 0 = .ok (.aload_n 0, 1) := by decide +kernel
theorem dX9_firstTagged_1 : decode cX9_firstTagged 1 = .ok (.iload_n 1, 1) := by decide +kernel
theorem dX9_firstTagged_2 : decode cX9_firstTagged 2 = .ok (.iload_n 2, 1) := by decide +kernel
theorem dX9_firstTagged_3 : decode cX9_firstTagged 3 = .ok (.invokevirtual 267, 3) := by decide +kernel
theorem dX9_firstTagged_6 : decode cX9_firstTagged 6 = .ok (.istore 4, 2) := by decide +kernel
theorem dX9_firstTagged_8 : decode cX9_firstTagged 8 = .ok (.iload 4, 2) := by decide +kernel
theorem dX9_firstTagged_10 : decode cX9_firstTagged 10 = .ok (.ifCond .ne 16, 3) := by decide +kernel
theorem dX9_firstTagged_13 : decode cX9_firstTagged 13 = .ok (.iload_n 3, 1) := by decide +kernel
theorem dX9_firstTagged_14 : decode cX9_firstTagged 14 = .ok (.iconst 0, 1) := by decide +kernel
theorem dX9_firstTagged_15 : decode cX9_firstTagged 15 = .ok (.iconst 5, 1) := by decide +kernel
theorem dX9_firstTagged_16 : decode cX9_firstTagged 16 = .ok (.invokestatic 113, 3) := by decide +kernel
theorem dX9_firstTagged_19 : decode cX9_firstTagged 19 = .ok (.ifCond .ne 7, 3) := by decide +kernel
theorem dX9_firstTagged_22 : decode cX9_firstTagged 22 = .ok (.iconst 2, 1) := by decide +kernel
theorem dX9_firstTagged_23 : decode cX9_firstTagged 23 = .ok (.goto 5, 3) := by decide +kernel
theorem dX9_firstTagged_26 : decode cX9_firstTagged 26 = .ok (.iload 4, 2) := by decide +kernel
theorem dX9_firstTagged_28 : decode cX9_firstTagged 28 = .ok (.istore 4, 2) := by decide +kernel
theorem dX9_firstTagged_30 : decode cX9_firstTagged 30 = .ok (.iconst 0, 1) := by decide +kernel
theorem dX9_firstTagged_31 : decode cX9_firstTagged 31 = .ok (.istore 5, 2) := by decide +kernel
theorem dX9_firstTagged_33 : decode cX9_firstTagged 33 = .ok (.iload 4, 2) := by decide +kernel
theorem dX9_firstTagged_35 : decode cX9_firstTagged 35 = .ok (.ifCond .ne 34, 3) := by decide +kernel
theorem dX9_firstTagged_38 : decode cX9_firstTagged 38 = .ok (.iload 5, 2) := by decide +kernel
theorem dX9_firstTagged_40 : decode cX9_firstTagged 40 = .ok (.aload_n 0, 1) := by decide +kernel
theorem dX9_firstTagged_41 : decode cX9_firstTagged 41 = .ok (.getfield 254, 3) := by decide +kernel
theorem dX9_firstTagged_44 : decode cX9_firstTagged 44 = .ok (.if_icmp .ge 25, 3) := by decide +kernel
theorem dX9_firstTagged_47 : decode cX9_firstTagged 47 = .ok (.aload_n 0, 1) := by decide +kernel
theorem dX9_firstTagged_48 : decode cX9_firstTagged 48 = .ok (.getfield 26, 3) := by decide +kernel
theorem dX9_firstTagged_51 : decode cX9_firstTagged 51 = .ok (.aload_n 0, 1) := by decide +kernel
theorem dX9_firstTagged_52 : decode cX9_firstTagged 52 = .ok (.getfield 99, 3) := by decide +kernel
theorem dX9_firstTagged_55 : decode cX9_firstTagged 55 = .ok (.iload 5, 2) := by decide +kernel
theorem dX9_firstTagged_57 : decode cX9_firstTagged 57 = .ok (.iaload, 1) := by decide +kernel
theorem dX9_firstTagged_58 : decode cX9_firstTagged 58 = .ok (.iaload, 1) := by decide +kernel
theorem dX9_firstTagged_59 : decode cX9_firstTagged 59 = .ok (.iload_n 3, 1) := by decide +kernel
theorem dX9_firstTagged_60 : decode cX9_firstTagged 60 = .ok (.if_icmp .eq 9, 3) := by decide +kernel
theorem dX9_firstTagged_63 : decode cX9_firstTagged 63 = .ok (.iinc 5 1, 3) := by decide +kernel
theorem dX9_firstTagged_66 : decode cX9_firstTagged 66 = .ok (.goto (-33), 3) := by decide +kernel
theorem dX9_firstTagged_69 : decode cX9_firstTagged 69 = .ok (.aload_n 0, 1) := by decide +kernel
theorem dX9_firstTagged_70 : decode cX9_firstTagged 70 = .ok (.iload 4, 2) := by decide +kernel
theorem dX9_firstTagged_72 : decode cX9_firstTagged 72 = .ok (.ifCond .ne 16, 3) := by decide +kernel
theorem dX9_firstTagged_75 : decode cX9_firstTagged 75 = .ok (.iload 5, 2) := by decide +kernel
theorem dX9_firstTagged_77 : decode cX9_firstTagged 77 = .ok (.aload_n 0, 1) := by decide +kernel
theorem dX9_firstTagged_78 : decode cX9_firstTagged 78 = .ok (.getfield 254, 3) := by decide +kernel
theorem dX9_firstTagged_81 : decode cX9_firstTagged 81 = .ok (.if_icmp .ne 7, 3) := by decide +kernel
theorem dX9_firstTagged_84 : decode cX9_firstTagged 84 = .ok (.iconst 3, 1) := by decide +kernel
theorem dX9_firstTagged_85 : decode cX9_firstTagged 85 = .ok (.goto 5, 3) := by decide +kernel
theorem dX9_firstTagged_88 : decode cX9_firstTagged 88 = .ok (.iload 4, 2) := by decide +kernel
theorem dX9_firstTagged_90 : decode cX9_firstTagged 90 = .ok (.invokevirtual 127, 3) := by decide +kernel
theorem dX9_firstTagged_93 : decode cX9_firstTagged 93 = .ok (.ifCond .eq 13, 3) := by decide +kernel
theorem dX9_firstTagged_96 : decode cX9_firstTagged 96 = .ok (.aload_n 0, 1) := by decide +kernel
theorem dX9_firstTagged_97 : decode cX9_firstTagged 97 = .ok (.getfield 99, 3) := by decide +kernel
theorem dX9_firstTagged_100 : decode cX9_firstTagged 100 = .ok (.iload 5, 2) := by decide +kernel
theorem dX9_firstTagged_102 : decode cX9_firstTagged 102 = .ok (.iaload, 1) := by decide +kernel
theorem dX9_firstTagged_103 : decode cX9_firstTagged 103 = .ok (.goto 4, 3) := by decide +kernel
theorem dX9_firstTagged_106 : decode cX9_firstTagged 106 = .ok (.iconst 0, 1) := by decide +kernel
theorem dX9_firstTagged_107 : decode cX9_firstTagged 107 = .ok (.ireturn, 1) := by decide +kernel
theorem dX9_isWholeOfHit_0 : decode cX9_isWholeOfHit 0 = .ok (.iconst 0, 1) := by decide +kernel
theorem dX9_isWholeOfHit_1 : decode cX9_isWholeOfHit 1 = .ok (.istore_n 2, 1) := by decide +kernel
theorem dX9_isWholeOfHit_2 : decode cX9_isWholeOfHit 2 = .ok (.iconst 0, 1) := by decide +kernel
theorem dX9_isWholeOfHit_3 : decode cX9_isWholeOfHit 3 = .ok (.istore_n 3, 1) := by decide +kernel
theorem dX9_isWholeOfHit_4 : decode cX9_isWholeOfHit 4 = .ok (.iload_n 3, 1) := by decide +kernel
theorem dX9_isWholeOfHit_5 : decode cX9_isWholeOfHit 5 = .ok (.aload_n 0, 1) := by decide +kernel
theorem dX9_isWholeOfHit_6 : decode cX9_isWholeOfHit 6 = .ok (.getfield 254, 3) := by decide +kernel
theorem dX9_isWholeOfHit_9 : decode cX9_isWholeOfHit 9 = .ok (.if_icmp .ge 34, 3) := by decide +kernel
theorem dX9_isWholeOfHit_12 : decode cX9_isWholeOfHit 12 = .ok (.iload_n 2, 1) := by decide +kernel
theorem dX9_isWholeOfHit_13 : decode cX9_isWholeOfHit 13 = .ok (.ifCond .ne 18, 3) := by decide +kernel
theorem dX9_isWholeOfHit_16 : decode cX9_isWholeOfHit 16 = .ok (.aload_n 0, 1) := by decide +kernel
theorem dX9_isWholeOfHit_17 : decode cX9_isWholeOfHit 17 = .ok (.getfield 29, 3) := by decide +kernel
theorem dX9_isWholeOfHit_20 : decode cX9_isWholeOfHit 20 = .ok (.aload_n 0, 1) := by decide +kernel
theorem dX9_isWholeOfHit_21 : decode cX9_isWholeOfHit 21 = .ok (.getfield 99, 3) := by decide +kernel
theorem dX9_isWholeOfHit_24 : decode cX9_isWholeOfHit 24 = .ok (.iload_n 3, 1) := by decide +kernel
theorem dX9_isWholeOfHit_25 : decode cX9_isWholeOfHit 25 = .ok (.iaload, 1) := by decide +kernel
theorem dX9_isWholeOfHit_26 : decode cX9_isWholeOfHit 26 = .ok (.iaload, 1) := by decide +kernel
theorem dX9_isWholeOfHit_27 : decode cX9_isWholeOfHit 27 = .ok (.iload_n 1, 1) := by decide +kernel
theorem dX9_isWholeOfHit_28 : decode cX9_isWholeOfHit 28 = .ok (.if_icmp .ne 7, 3) := by decide +kernel
theorem dX9_isWholeOfHit_31 : decode cX9_isWholeOfHit 31 = .ok (.iconst 1, 1) := by decide +kernel
theorem dX9_isWholeOfHit_32 : decode cX9_isWholeOfHit 32 = .ok (.goto 4, 3) := by decide +kernel
theorem dX9_isWholeOfHit_35 : decode cX9_isWholeOfHit 35 = .ok (.iconst 0, 1) := by decide +kernel
theorem dX9_isWholeOfHit_36 : decode cX9_isWholeOfHit 36 = .ok (.istore_n 2, 1) := by decide +kernel
theorem dX9_isWholeOfHit_37 : decode cX9_isWholeOfHit 37 = .ok (.iinc 3 1, 3) := by decide +kernel
theorem dX9_isWholeOfHit_40 : decode cX9_isWholeOfHit 40 = .ok (.goto (-36), 3) := by decide +kernel
theorem dX9_isWholeOfHit_43 : decode cX9_isWholeOfHit 43 = .ok (.iload_n 2, 1) := by decide +kernel
theorem dX9_isWholeOfHit_44 : decode cX9_isWholeOfHit 44 = .ok (.ireturn, 1) := by decide +kernel
theorem dX9_wholes_0 : decode cX9_wholes 0 = .ok (.aload_n 0, 1) := by decide +kernel
theorem dX9_wholes_1 : decode cX9_wholes 1 = .ok (.aload_n 0, 1) := by decide +kernel
theorem dX9_wholes_2 : decode cX9_wholes 2 = .ok (.iload_n 1, 1) := by decide +kernel
theorem dX9_wholes_3 : decode cX9_wholes 3 = .ok (.iload_n 2, 1) := by decide +kernel
theorem dX9_wholes_4 : decode cX9_wholes 4 = .ok (.invokevirtual 267, 3) := by decide +kernel
theorem dX9_wholes_7 : decode cX9_wholes 7 = .ok (.invokevirtual 127, 3) := by decide +kernel
theorem dX9_wholes_10 : decode cX9_wholes 10 = .ok (.ifCond .ne 5, 3) := by decide +kernel
theorem dX9_wholes_13 : decode cX9_wholes 13 = .ok (.iconst 0, 1) := by decide +kernel
theorem dX9_wholes_14 : decode cX9_wholes 14 = .ok (.ireturn, 1) := by decide +kernel
theorem dX9_wholes_15 : decode cX9_wholes 15 = .ok (.iconst 0, 1) := by decide +kernel
theorem dX9_wholes_16 : decode cX9_wholes 16 = .ok (.istore_n 3, 1) := by decide +kernel
theorem dX9_wholes_17 : decode cX9_wholes 17 = .ok (.iconst 0, 1) := by decide +kernel
theorem dX9_wholes_18 : decode cX9_wholes 18 = .ok (.istore 4, 2) := by decide +kernel
theorem dX9_wholes_20 : decode cX9_wholes 20 = .ok (.iload 4, 2) := by decide +kernel
theorem dX9_wholes_22 : decode cX9_wholes 22 = .ok (.aload_n 0, 1) := by decide +kernel
theorem dX9_wholes_23 : decode cX9_wholes 23 = .ok (.getfield 117, 3) := by decide +kernel
theorem dX9_wholes_26 : decode cX9_wholes 26 = .ok (.if_icmp .ge 36, 3) := by decide +kernel
theorem dX9_wholes_29 : decode cX9_wholes 29 = .ok (.iload_n 3, 1) := by decide +kernel
theorem dX9_wholes_30 : decode cX9_wholes 30 = .ok (.aload_n 0, 1) := by decide +kernel
theorem dX9_wholes_31 : decode cX9_wholes 31 = .ok (.iload_n 1, 1) := by decide +kernel
theorem dX9_wholes_32 : decode cX9_wholes 32 = .ok (.iload 4, 2) := by decide +kernel
theorem dX9_wholes_34 : decode cX9_wholes 34 = .ok (.invokevirtual 273, 3) := by decide +kernel
theorem dX9_wholes_37 : decode cX9_wholes 37 = .ok (.ifCond .eq 16, 3) := by decide +kernel
theorem dX9_wholes_40 : decode cX9_wholes 40 = .ok (.aload_n 0, 1) := by decide +kernel
theorem dX9_wholes_41 : decode cX9_wholes 41 = .ok (.iload 4, 2) := by decide +kernel
theorem dX9_wholes_43 : decode cX9_wholes 43 = .ok (.invokevirtual 278, 3) := by decide +kernel
theorem dX9_wholes_46 : decode cX9_wholes 46 = .ok (.ifCond .eq 7, 3) := by decide +kernel
theorem dX9_wholes_49 : decode cX9_wholes 49 = .ok (.iconst 1, 1) := by decide +kernel
theorem dX9_wholes_50 : decode cX9_wholes 50 = .ok (.goto 4, 3) := by decide +kernel
theorem dX9_wholes_53 : decode cX9_wholes 53 = .ok (.iconst 0, 1) := by decide +kernel
theorem dX9_wholes_54 : decode cX9_wholes 54 = .ok (.iadd, 1) := by decide +kernel
theorem dX9_wholes_55 : decode cX9_wholes 55 = .ok (.istore_n 3, 1) := by decide +kernel
theorem dX9_wholes_56 : decode cX9_wholes 56 = .ok (.iinc 4 1, 3) := by decide +kernel
theorem dX9_wholes_59 : decode cX9_wholes 59 = .ok (.goto (-39), 3) := by decide +kernel
theorem dX9_wholes_62 : decode cX9_wholes 62 = .ok (.iload_n 3, 1) := by decide +kernel
theorem dX9_wholes_63 : decode cX9_wholes 63 = .ok (.ireturn, 1) := by decide +kernel
theorem dX9_wholeScore_0 : decode cX9_wholeScore 0 = .ok (.aload_n 0, 1) := by decide +kernel
theorem dX9_wholeScore_1 : decode cX9_wholeScore 1 = .ok (.iload_n 1, 1) := by decide +kernel
theorem dX9_wholeScore_2 : decode cX9_wholeScore 2 = .ok (.iload_n 2, 1) := by decide +kernel
theorem dX9_wholeScore_3 : decode cX9_wholeScore 3 = .ok (.invokevirtual 267, 3) := by decide +kernel
theorem dX9_wholeScore_6 : decode cX9_wholeScore 6 = .ok (.istore 4, 2) := by decide +kernel
theorem dX9_wholeScore_8 : decode cX9_wholeScore 8 = .ok (.iload 4, 2) := by decide +kernel
theorem dX9_wholeScore_10 : decode cX9_wholeScore 10 = .ok (.ifCond .ne 16, 3) := by decide +kernel
theorem dX9_wholeScore_13 : decode cX9_wholeScore 13 = .ok (.aload_n 0, 1) := by decide +kernel
theorem dX9_wholeScore_14 : decode cX9_wholeScore 14 = .ok (.iload_n 1, 1) := by decide +kernel
theorem dX9_wholeScore_15 : decode cX9_wholeScore 15 = .ok (.iload_n 3, 1) := by decide +kernel
theorem dX9_wholeScore_16 : decode cX9_wholeScore 16 = .ok (.invokevirtual 273, 3) := by decide +kernel
theorem dX9_wholeScore_19 : decode cX9_wholeScore 19 = .ok (.ifCond .ne 7, 3) := by decide +kernel
theorem dX9_wholeScore_22 : decode cX9_wholeScore 22 = .ok (.iconst 1, 1) := by decide +kernel
theorem dX9_wholeScore_23 : decode cX9_wholeScore 23 = .ok (.goto 5, 3) := by decide +kernel
theorem dX9_wholeScore_26 : decode cX9_wholeScore 26 = .ok (.iload 4, 2) := by decide +kernel
theorem dX9_wholeScore_28 : decode cX9_wholeScore 28 = .ok (.istore 4, 2) := by decide +kernel
theorem dX9_wholeScore_30 : decode cX9_wholeScore 30 = .ok (.aload_n 0, 1) := by decide +kernel
theorem dX9_wholeScore_31 : decode cX9_wholeScore 31 = .ok (.iload 4, 2) := by decide +kernel
theorem dX9_wholeScore_33 : decode cX9_wholeScore 33 = .ok (.ifCond .ne 15, 3) := by decide +kernel
theorem dX9_wholeScore_36 : decode cX9_wholeScore 36 = .ok (.aload_n 0, 1) := by decide +kernel
theorem dX9_wholeScore_37 : decode cX9_wholeScore 37 = .ok (.iload_n 3, 1) := by decide +kernel
theorem dX9_wholeScore_38 : decode cX9_wholeScore 38 = .ok (.invokevirtual 278, 3) := by decide +kernel
theorem dX9_wholeScore_41 : decode cX9_wholeScore 41 = .ok (.ifCond .ne 7, 3) := by decide +kernel
theorem dX9_wholeScore_44 : decode cX9_wholeScore 44 = .ok (.iconst 2, 1) := by decide +kernel
theorem dX9_wholeScore_45 : decode cX9_wholeScore 45 = .ok (.goto 5, 3) := by decide +kernel
theorem dX9_wholeScore_48 : decode cX9_wholeScore 48 = .ok (.iload 4, 2) := by decide +kernel
theorem dX9_wholeScore_50 : decode cX9_wholeScore 50 = .ok (.invokevirtual 127, 3) := by decide +kernel
theorem dX9_wholeScore_53 : decode cX9_wholeScore 53 = .ok (.ifCond .ne 5, 3) := by decide +kernel
theorem dX9_wholeScore_56 : decode cX9_wholeScore 56 = .ok (.lconst 0, 1) := by decide +kernel
theorem dX9_wholeScore_57 : decode cX9_wholeScore 57 = .ok (.lreturn, 1) := by decide +kernel
theorem dX9_wholeScore_58 : decode cX9_wholeScore 58 = .ok (.ldc2_w 276, 3) := by decide +kernel
theorem dX9_wholeScore_61 : decode cX9_wholeScore 61 = .ok (.lstore 5, 2) := by decide +kernel
theorem dX9_wholeScore_63 : decode cX9_wholeScore 63 = .ok (.iconst 0, 1) := by decide +kernel
theorem dX9_wholeScore_64 : decode cX9_wholeScore 64 = .ok (.istore 7, 2) := by decide +kernel
theorem dX9_wholeScore_66 : decode cX9_wholeScore 66 = .ok (.iload 7, 2) := by decide +kernel
theorem dX9_wholeScore_68 : decode cX9_wholeScore 68 = .ok (.aload_n 0, 1) := by decide +kernel
theorem dX9_wholeScore_69 : decode cX9_wholeScore 69 = .ok (.getfield 254, 3) := by decide +kernel
theorem dX9_wholeScore_72 : decode cX9_wholeScore 72 = .ok (.if_icmp .ge 52, 3) := by decide +kernel
theorem dX9_wholeScore_75 : decode cX9_wholeScore 75 = .ok (.aload_n 0, 1) := by decide +kernel
theorem dX9_wholeScore_76 : decode cX9_wholeScore 76 = .ok (.getfield 29, 3) := by decide +kernel
theorem dX9_wholeScore_79 : decode cX9_wholeScore 79 = .ok (.aload_n 0, 1) := by decide +kernel
theorem dX9_wholeScore_80 : decode cX9_wholeScore 80 = .ok (.getfield 99, 3) := by decide +kernel
theorem dX9_wholeScore_83 : decode cX9_wholeScore 83 = .ok (.iload 7, 2) := by decide +kernel
theorem dX9_wholeScore_85 : decode cX9_wholeScore 85 = .ok (.iaload, 1) := by decide +kernel
theorem dX9_wholeScore_86 : decode cX9_wholeScore 86 = .ok (.iaload, 1) := by decide +kernel
theorem dX9_wholeScore_87 : decode cX9_wholeScore 87 = .ok (.iload_n 3, 1) := by decide +kernel
theorem dX9_wholeScore_88 : decode cX9_wholeScore 88 = .ok (.if_icmp .ne 26, 3) := by decide +kernel
theorem dX9_wholeScore_91 : decode cX9_wholeScore 91 = .ok (.aload_n 0, 1) := by decide +kernel
theorem dX9_wholeScore_92 : decode cX9_wholeScore 92 = .ok (.getfield 102, 3) := by decide +kernel
theorem dX9_wholeScore_95 : decode cX9_wholeScore 95 = .ok (.iload 7, 2) := by decide +kernel
theorem dX9_wholeScore_97 : decode cX9_wholeScore 97 = .ok (.laload, 1) := by decide +kernel
theorem dX9_wholeScore_98 : decode cX9_wholeScore 98 = .ok (.lload 5, 2) := by decide +kernel
theorem dX9_wholeScore_100 : decode cX9_wholeScore 100 = .ok (.lcmp, 1) := by decide +kernel
theorem dX9_wholeScore_101 : decode cX9_wholeScore 101 = .ok (.ifCond .le 13, 3) := by decide +kernel
theorem dX9_wholeScore_104 : decode cX9_wholeScore 104 = .ok (.aload_n 0, 1) := by decide +kernel
theorem dX9_wholeScore_105 : decode cX9_wholeScore 105 = .ok (.getfield 102, 3) := by decide +kernel
theorem dX9_wholeScore_108 : decode cX9_wholeScore 108 = .ok (.iload 7, 2) := by decide +kernel
theorem dX9_wholeScore_110 : decode cX9_wholeScore 110 = .ok (.laload, 1) := by decide +kernel
theorem dX9_wholeScore_111 : decode cX9_wholeScore 111 = .ok (.goto 5, 3) := by decide +kernel
theorem dX9_wholeScore_114 : decode cX9_wholeScore 114 = .ok (.lload 5, 2) := by decide +kernel
theorem dX9_wholeScore_116 : decode cX9_wholeScore 116 = .ok (.lstore 5, 2) := by decide +kernel
theorem dX9_wholeScore_118 : decode cX9_wholeScore 118 = .ok (.iinc 7 1, 3) := by decide +kernel
theorem dX9_wholeScore_121 : decode cX9_wholeScore 121 = .ok (.goto (-55), 3) := by decide +kernel
theorem dX9_wholeScore_124 : decode cX9_wholeScore 124 = .ok (.lload 5, 2) := by decide +kernel
theorem dX9_wholeScore_126 : decode cX9_wholeScore 126 = .ok (.lreturn, 1) := by decide +kernel
theorem dX9_marksAt_0 : decode cX9_marksAt 0 = .ok (.bipush 96, 2) := by decide +kernel
theorem dX9_marksAt_2 : decode cX9_marksAt 2 = .ok (.iload_n 1, 1) := by decide +kernel
theorem dX9_marksAt_3 : decode cX9_marksAt 3 = .ok (.imul, 1) := by decide +kernel
theorem dX9_marksAt_4 : decode cX9_marksAt 4 = .ok (.istore 4, 2) := by decide +kernel
theorem dX9_marksAt_6 : decode cX9_marksAt 6 = .ok (.iload 4, 2) := by decide +kernel
theorem dX9_marksAt_8 : decode cX9_marksAt 8 = .ok (.bipush 96, 2) := by decide +kernel
theorem dX9_marksAt_10 : decode cX9_marksAt 10 = .ok (.iload_n 1, 1) := by decide +kernel
theorem dX9_marksAt_11 : decode cX9_marksAt 11 = .ok (.imul, 1) := by decide +kernel
theorem dX9_marksAt_12 : decode cX9_marksAt 12 = .ok (.aload_n 0, 1) := by decide +kernel
theorem dX9_marksAt_13 : decode cX9_marksAt 13 = .ok (.getfield 35, 3) := by decide +kernel
theorem dX9_marksAt_16 : decode cX9_marksAt 16 = .ok (.iload_n 1, 1) := by decide +kernel
theorem dX9_marksAt_17 : decode cX9_marksAt 17 = .ok (.iaload, 1) := by decide +kernel
theorem dX9_marksAt_18 : decode cX9_marksAt 18 = .ok (.iadd, 1) := by decide +kernel
theorem dX9_marksAt_19 : decode cX9_marksAt 19 = .ok (.if_icmp .ge 44, 3) := by decide +kernel
theorem dX9_marksAt_22 : decode cX9_marksAt 22 = .ok (.aload_n 0, 1) := by decide +kernel
theorem dX9_marksAt_23 : decode cX9_marksAt 23 = .ok (.getfield 41, 3) := by decide +kernel
theorem dX9_marksAt_26 : decode cX9_marksAt 26 = .ok (.iload 4, 2) := by decide +kernel
theorem dX9_marksAt_28 : decode cX9_marksAt 28 = .ok (.iaload, 1) := by decide +kernel
theorem dX9_marksAt_29 : decode cX9_marksAt 29 = .ok (.iload_n 2, 1) := by decide +kernel
theorem dX9_marksAt_30 : decode cX9_marksAt 30 = .ok (.if_icmp .ne 27, 3) := by decide +kernel
theorem dX9_marksAt_33 : decode cX9_marksAt 33 = .ok (.aload_n 0, 1) := by decide +kernel
theorem dX9_marksAt_34 : decode cX9_marksAt 34 = .ok (.getfield 38, 3) := by decide +kernel
theorem dX9_marksAt_37 : decode cX9_marksAt 37 = .ok (.iload 4, 2) := by decide +kernel
theorem dX9_marksAt_39 : decode cX9_marksAt 39 = .ok (.iaload, 1) := by decide +kernel
theorem dX9_marksAt_40 : decode cX9_marksAt 40 = .ok (.iload_n 3, 1) := by decide +kernel
theorem dX9_marksAt_41 : decode cX9_marksAt 41 = .ok (.if_icmp .ne 16, 3) := by decide +kernel
theorem dX9_marksAt_44 : decode cX9_marksAt 44 = .ok (.aload_n 0, 1) := by decide +kernel
theorem dX9_marksAt_45 : decode cX9_marksAt 45 = .ok (.getfield 106, 3) := by decide +kernel
theorem dX9_marksAt_48 : decode cX9_marksAt 48 = .ok (.aload_n 0, 1) := by decide +kernel
theorem dX9_marksAt_49 : decode cX9_marksAt 49 = .ok (.getfield 44, 3) := by decide +kernel
theorem dX9_marksAt_52 : decode cX9_marksAt 52 = .ok (.iload 4, 2) := by decide +kernel
theorem dX9_marksAt_54 : decode cX9_marksAt 54 = .ok (.iaload, 1) := by decide +kernel
theorem dX9_marksAt_55 : decode cX9_marksAt 55 = .ok (.iconst 1, 1) := by decide +kernel
theorem dX9_marksAt_56 : decode cX9_marksAt 56 = .ok (.bastore, 1) := by decide +kernel
theorem dX9_marksAt_57 : decode cX9_marksAt 57 = .ok (.iinc 4 1, 3) := by decide +kernel
theorem dX9_marksAt_60 : decode cX9_marksAt 60 = .ok (.goto (-54), 3) := by decide +kernel
theorem dX9_marksAt_63 : decode cX9_marksAt 63 = .ok (.return_, 1) := by decide +kernel
theorem dX9_marksLeaf_0 : decode cX9_marksLeaf 0 = .ok (.iconst 0, 1) := by decide +kernel
theorem dX9_marksLeaf_1 : decode cX9_marksLeaf 1 = .ok (.istore_n 3, 1) := by decide +kernel
theorem dX9_marksLeaf_2 : decode cX9_marksLeaf 2 = .ok (.iload_n 3, 1) := by decide +kernel
theorem dX9_marksLeaf_3 : decode cX9_marksLeaf 3 = .ok (.aload_n 0, 1) := by decide +kernel
theorem dX9_marksLeaf_4 : decode cX9_marksLeaf 4 = .ok (.getfield 35, 3) := by decide +kernel
theorem dX9_marksLeaf_7 : decode cX9_marksLeaf 7 = .ok (.iload_n 2, 1) := by decide +kernel
theorem dX9_marksLeaf_8 : decode cX9_marksLeaf 8 = .ok (.iaload, 1) := by decide +kernel
theorem dX9_marksLeaf_9 : decode cX9_marksLeaf 9 = .ok (.if_icmp .ge 155, 3) := by decide +kernel
theorem dX9_marksLeaf_12 : decode cX9_marksLeaf 12 = .ok (.aload_n 0, 1) := by decide +kernel
theorem dX9_marksLeaf_13 : decode cX9_marksLeaf 13 = .ok (.getfield 41, 3) := by decide +kernel
theorem dX9_marksLeaf_16 : decode cX9_marksLeaf 16 = .ok (.bipush 96, 2) := by decide +kernel
theorem dX9_marksLeaf_18 : decode cX9_marksLeaf 18 = .ok (.iload_n 2, 1) := by decide +kernel
theorem dX9_marksLeaf_19 : decode cX9_marksLeaf 19 = .ok (.imul, 1) := by decide +kernel
theorem dX9_marksLeaf_20 : decode cX9_marksLeaf 20 = .ok (.iload_n 3, 1) := by decide +kernel
theorem dX9_marksLeaf_21 : decode cX9_marksLeaf 21 = .ok (.iadd, 1) := by decide +kernel
theorem dX9_marksLeaf_22 : decode cX9_marksLeaf 22 = .ok (.iaload, 1) := by decide +kernel
theorem dX9_marksLeaf_23 : decode cX9_marksLeaf 23 = .ok (.istore 4, 2) := by decide +kernel
theorem dX9_marksLeaf_25 : decode cX9_marksLeaf 25 = .ok (.aload_n 0, 1) := by decide +kernel
theorem dX9_marksLeaf_26 : decode cX9_marksLeaf 26 = .ok (.getfield 66, 3) := by decide +kernel
theorem dX9_marksLeaf_29 : decode cX9_marksLeaf 29 = .ok (.iload_n 1, 1) := by decide +kernel
theorem dX9_marksLeaf_30 : decode cX9_marksLeaf 30 = .ok (.caload, 1) := by decide +kernel
theorem dX9_marksLeaf_31 : decode cX9_marksLeaf 31 = .ok (.bipush 119, 2) := by decide +kernel
theorem dX9_marksLeaf_33 : decode cX9_marksLeaf 33 = .ok (.if_icmp .ne 19, 3) := by decide +kernel
theorem dX9_marksLeaf_36 : decode cX9_marksLeaf 36 = .ok (.aload_n 0, 1) := by decide +kernel
theorem dX9_marksLeaf_37 : decode cX9_marksLeaf 37 = .ok (.iload_n 2, 1) := by decide +kernel
theorem dX9_marksLeaf_38 : decode cX9_marksLeaf 38 = .ok (.iload 4, 2) := by decide +kernel
theorem dX9_marksLeaf_40 : decode cX9_marksLeaf 40 = .ok (.aload_n 0, 1) := by decide +kernel
theorem dX9_marksLeaf_41 : decode cX9_marksLeaf 41 = .ok (.getfield 69, 3) := by decide +kernel
theorem dX9_marksLeaf_44 : decode cX9_marksLeaf 44 = .ok (.iload_n 1, 1) := by decide +kernel
theorem dX9_marksLeaf_45 : decode cX9_marksLeaf 45 = .ok (.iaload, 1) := by decide +kernel
theorem dX9_marksLeaf_46 : decode cX9_marksLeaf 46 = .ok (.invokevirtual 281, 3) := by decide +kernel
theorem dX9_marksLeaf_49 : decode cX9_marksLeaf 49 = .ok (.goto 109, 3) := by decide +kernel
theorem dX9_marksLeaf_52 : decode cX9_marksLeaf 52 = .ok (.aload_n 0, 1) := by decide +kernel
theorem dX9_marksLeaf_53 : decode cX9_marksLeaf 53 = .ok (.getfield 66, 3) := by decide +kernel
theorem dX9_marksLeaf_56 : decode cX9_marksLeaf 56 = .ok (.iload_n 1, 1) := by decide +kernel
theorem dX9_marksLeaf_57 : decode cX9_marksLeaf 57 = .ok (.caload, 1) := by decide +kernel
theorem dX9_marksLeaf_58 : decode cX9_marksLeaf 58 = .ok (.bipush 112, 2) := by decide +kernel
theorem dX9_marksLeaf_60 : decode cX9_marksLeaf 60 = .ok (.if_icmp .ne 68, 3) := by decide +kernel
theorem dX9_marksLeaf_63 : decode cX9_marksLeaf 63 = .ok (.aload_n 0, 1) := by decide +kernel
theorem dX9_marksLeaf_64 : decode cX9_marksLeaf 64 = .ok (.iload_n 2, 1) := by decide +kernel
theorem dX9_marksLeaf_65 : decode cX9_marksLeaf 65 = .ok (.iload 4, 2) := by decide +kernel
theorem dX9_marksLeaf_67 : decode cX9_marksLeaf 67 = .ok (.aload_n 0, 1) := by decide +kernel
theorem dX9_marksLeaf_68 : decode cX9_marksLeaf 68 = .ok (.getfield 69, 3) := by decide +kernel
theorem dX9_marksLeaf_71 : decode cX9_marksLeaf 71 = .ok (.iload_n 1, 1) := by decide +kernel
theorem dX9_marksLeaf_72 : decode cX9_marksLeaf 72 = .ok (.iaload, 1) := by decide +kernel
theorem dX9_marksLeaf_73 : decode cX9_marksLeaf 73 = .ok (.invokevirtual 225, 3) := by decide +kernel
theorem dX9_marksLeaf_76 : decode cX9_marksLeaf 76 = .ok (.ifCond .eq 52, 3) := by decide +kernel
theorem dX9_marksLeaf_79 : decode cX9_marksLeaf 79 = .ok (.aload_n 0, 1) := by decide +kernel
theorem dX9_marksLeaf_80 : decode cX9_marksLeaf 80 = .ok (.iload_n 2, 1) := by decide +kernel
theorem dX9_marksLeaf_81 : decode cX9_marksLeaf 81 = .ok (.iload 4, 2) := by decide +kernel
theorem dX9_marksLeaf_83 : decode cX9_marksLeaf 83 = .ok (.iconst 1, 1) := by decide +kernel
theorem dX9_marksLeaf_84 : decode cX9_marksLeaf 84 = .ok (.iadd, 1) := by decide +kernel
theorem dX9_marksLeaf_85 : decode cX9_marksLeaf 85 = .ok (.aload_n 0, 1) := by decide +kernel
theorem dX9_marksLeaf_86 : decode cX9_marksLeaf 86 = .ok (.getfield 72, 3) := by decide +kernel
theorem dX9_marksLeaf_89 : decode cX9_marksLeaf 89 = .ok (.iload_n 1, 1) := by decide +kernel
theorem dX9_marksLeaf_90 : decode cX9_marksLeaf 90 = .ok (.iaload, 1) := by decide +kernel
theorem dX9_marksLeaf_91 : decode cX9_marksLeaf 91 = .ok (.invokevirtual 225, 3) := by decide +kernel
theorem dX9_marksLeaf_94 : decode cX9_marksLeaf 94 = .ok (.ifCond .eq 34, 3) := by decide +kernel
theorem dX9_marksLeaf_97 : decode cX9_marksLeaf 97 = .ok (.aload_n 0, 1) := by decide +kernel
theorem dX9_marksLeaf_98 : decode cX9_marksLeaf 98 = .ok (.iload_n 2, 1) := by decide +kernel
theorem dX9_marksLeaf_99 : decode cX9_marksLeaf 99 = .ok (.iload 4, 2) := by decide +kernel
theorem dX9_marksLeaf_101 : decode cX9_marksLeaf 101 = .ok (.aload_n 0, 1) := by decide +kernel
theorem dX9_marksLeaf_102 : decode cX9_marksLeaf 102 = .ok (.getfield 69, 3) := by decide +kernel
theorem dX9_marksLeaf_105 : decode cX9_marksLeaf 105 = .ok (.iload_n 1, 1) := by decide +kernel
theorem dX9_marksLeaf_106 : decode cX9_marksLeaf 106 = .ok (.iaload, 1) := by decide +kernel
theorem dX9_marksLeaf_107 : decode cX9_marksLeaf 107 = .ok (.invokevirtual 281, 3) := by decide +kernel
theorem dX9_marksLeaf_110 : decode cX9_marksLeaf 110 = .ok (.aload_n 0, 1) := by decide +kernel
theorem dX9_marksLeaf_111 : decode cX9_marksLeaf 111 = .ok (.iload_n 2, 1) := by decide +kernel
theorem dX9_marksLeaf_112 : decode cX9_marksLeaf 112 = .ok (.iload 4, 2) := by decide +kernel
theorem dX9_marksLeaf_114 : decode cX9_marksLeaf 114 = .ok (.iconst 1, 1) := by decide +kernel
theorem dX9_marksLeaf_115 : decode cX9_marksLeaf 115 = .ok (.iadd, 1) := by decide +kernel
theorem dX9_marksLeaf_116 : decode cX9_marksLeaf 116 = .ok (.aload_n 0, 1) := by decide +kernel
theorem dX9_marksLeaf_117 : decode cX9_marksLeaf 117 = .ok (.getfield 72, 3) := by decide +kernel
theorem dX9_marksLeaf_120 : decode cX9_marksLeaf 120 = .ok (.iload_n 1, 1) := by decide +kernel
theorem dX9_marksLeaf_121 : decode cX9_marksLeaf 121 = .ok (.iaload, 1) := by decide +kernel
theorem dX9_marksLeaf_122 : decode cX9_marksLeaf 122 = .ok (.invokevirtual 281, 3) := by decide +kernel
theorem dX9_marksLeaf_125 : decode cX9_marksLeaf 125 = .ok (.goto 33, 3) := by decide +kernel
theorem dX9_marksLeaf_128 : decode cX9_marksLeaf 128 = .ok (.aload_n 0, 1) := by decide +kernel
theorem dX9_marksLeaf_129 : decode cX9_marksLeaf 129 = .ok (.getfield 66, 3) := by decide +kernel
theorem dX9_marksLeaf_132 : decode cX9_marksLeaf 132 = .ok (.iload_n 1, 1) := by decide +kernel
theorem dX9_marksLeaf_133 : decode cX9_marksLeaf 133 = .ok (.caload, 1) := by decide +kernel
theorem dX9_marksLeaf_134 : decode cX9_marksLeaf 134 = .ok (.bipush 110, 2) := by decide +kernel
theorem dX9_marksLeaf_136 : decode cX9_marksLeaf 136 = .ok (.if_icmp .ne 22, 3) := by decide +kernel
theorem dX9_marksLeaf_139 : decode cX9_marksLeaf 139 = .ok (.aload_n 0, 1) := by decide +kernel
theorem dX9_marksLeaf_140 : decode cX9_marksLeaf 140 = .ok (.iload_n 1, 1) := by decide +kernel
theorem dX9_marksLeaf_141 : decode cX9_marksLeaf 141 = .ok (.iload_n 2, 1) := by decide +kernel
theorem dX9_marksLeaf_142 : decode cX9_marksLeaf 142 = .ok (.iload 4, 2) := by decide +kernel
theorem dX9_marksLeaf_144 : decode cX9_marksLeaf 144 = .ok (.invokevirtual 228, 3) := by decide +kernel
theorem dX9_marksLeaf_147 : decode cX9_marksLeaf 147 = .ok (.ifCond .le 11, 3) := by decide +kernel
theorem dX9_marksLeaf_150 : decode cX9_marksLeaf 150 = .ok (.aload_n 0, 1) := by decide +kernel
theorem dX9_marksLeaf_151 : decode cX9_marksLeaf 151 = .ok (.iload_n 1, 1) := by decide +kernel
theorem dX9_marksLeaf_152 : decode cX9_marksLeaf 152 = .ok (.iload_n 2, 1) := by decide +kernel
theorem dX9_marksLeaf_153 : decode cX9_marksLeaf 153 = .ok (.iload 4, 2) := by decide +kernel
theorem dX9_marksLeaf_155 : decode cX9_marksLeaf 155 = .ok (.invokevirtual 284, 3) := by decide +kernel
theorem dX9_marksLeaf_158 : decode cX9_marksLeaf 158 = .ok (.iinc 3 1, 3) := by decide +kernel
theorem dX9_marksLeaf_161 : decode cX9_marksLeaf 161 = .ok (.goto (-159), 3) := by decide +kernel
theorem dX9_marksLeaf_164 : decode cX9_marksLeaf 164 = .ok (.return_, 1) := by decide +kernel
theorem dX9_marksNear_0 : decode cX9_marksNear 0 = .ok (.aload_n 0, 1) := by decide +kernel
theorem dX9_marksNear_1 : decode cX9_marksNear 1 = .ok (.iload_n 2, 1) := by decide +kernel
theorem dX9_marksNear_2 : decode cX9_marksNear 2 = .ok (.iload_n 3, 1) := by decide +kernel
theorem dX9_marksNear_3 : decode cX9_marksNear 3 = .ok (.aload_n 0, 1) := by decide +kernel
theorem dX9_marksNear_4 : decode cX9_marksNear 4 = .ok (.getfield 69, 3) := by decide +kernel
theorem dX9_marksNear_7 : decode cX9_marksNear 7 = .ok (.iload_n 1, 1) := by decide +kernel
theorem dX9_marksNear_8 : decode cX9_marksNear 8 = .ok (.iaload, 1) := by decide +kernel
theorem dX9_marksNear_9 : decode cX9_marksNear 9 = .ok (.invokevirtual 281, 3) := by decide +kernel
theorem dX9_marksNear_12 : decode cX9_marksNear 12 = .ok (.iload_n 3, 1) := by decide +kernel
theorem dX9_marksNear_13 : decode cX9_marksNear 13 = .ok (.aload_n 0, 1) := by decide +kernel
theorem dX9_marksNear_14 : decode cX9_marksNear 14 = .ok (.getfield 75, 3) := by decide +kernel
theorem dX9_marksNear_17 : decode cX9_marksNear 17 = .ok (.iload_n 1, 1) := by decide +kernel
theorem dX9_marksNear_18 : decode cX9_marksNear 18 = .ok (.iaload, 1) := by decide +kernel
theorem dX9_marksNear_19 : decode cX9_marksNear 19 = .ok (.isub, 1) := by decide +kernel
theorem dX9_marksNear_20 : decode cX9_marksNear 20 = .ok (.istore 4, 2) := by decide +kernel
theorem dX9_marksNear_22 : decode cX9_marksNear 22 = .ok (.iload 4, 2) := by decide +kernel
theorem dX9_marksNear_24 : decode cX9_marksNear 24 = .ok (.iload_n 3, 1) := by decide +kernel
theorem dX9_marksNear_25 : decode cX9_marksNear 25 = .ok (.aload_n 0, 1) := by decide +kernel
theorem dX9_marksNear_26 : decode cX9_marksNear 26 = .ok (.getfield 75, 3) := by decide +kernel
theorem dX9_marksNear_29 : decode cX9_marksNear 29 = .ok (.iload_n 1, 1) := by decide +kernel
theorem dX9_marksNear_30 : decode cX9_marksNear 30 = .ok (.iaload, 1) := by decide +kernel
theorem dX9_marksNear_31 : decode cX9_marksNear 31 = .ok (.iadd, 1) := by decide +kernel
theorem dX9_marksNear_32 : decode cX9_marksNear 32 = .ok (.if_icmp .gt 28, 3) := by decide +kernel
theorem dX9_marksNear_35 : decode cX9_marksNear 35 = .ok (.iload 4, 2) := by decide +kernel
theorem dX9_marksNear_37 : decode cX9_marksNear 37 = .ok (.iload_n 3, 1) := by decide +kernel
theorem dX9_marksNear_38 : decode cX9_marksNear 38 = .ok (.if_icmp .eq 16, 3) := by decide +kernel
theorem dX9_marksNear_41 : decode cX9_marksNear 41 = .ok (.aload_n 0, 1) := by decide +kernel
theorem dX9_marksNear_42 : decode cX9_marksNear 42 = .ok (.iload_n 2, 1) := by decide +kernel
theorem dX9_marksNear_43 : decode cX9_marksNear 43 = .ok (.iload 4, 2) := by decide +kernel
theorem dX9_marksNear_45 : decode cX9_marksNear 45 = .ok (.aload_n 0, 1) := by decide +kernel
theorem dX9_marksNear_46 : decode cX9_marksNear 46 = .ok (.getfield 72, 3) := by decide +kernel
theorem dX9_marksNear_49 : decode cX9_marksNear 49 = .ok (.iload_n 1, 1) := by decide +kernel
theorem dX9_marksNear_50 : decode cX9_marksNear 50 = .ok (.iaload, 1) := by decide +kernel
theorem dX9_marksNear_51 : decode cX9_marksNear 51 = .ok (.invokevirtual 281, 3) := by decide +kernel
theorem dX9_marksNear_54 : decode cX9_marksNear 54 = .ok (.iinc 4 1, 3) := by decide +kernel
theorem dX9_marksNear_57 : decode cX9_marksNear 57 = .ok (.goto (-35), 3) := by decide +kernel
theorem dX9_marksNear_60 : decode cX9_marksNear 60 = .ok (.return_, 1) := by decide +kernel
theorem dX9_marksAll_0 : decode cX9_marksAll 0 = .ok (.aload_n 0, 1) := by decide +kernel
theorem dX9_marksAll_1 : decode cX9_marksAll 1 = .ok (.iload_n 1, 1) := by decide +kernel
theorem dX9_marksAll_2 : decode cX9_marksAll 2 = .ok (.invokevirtual 241, 3) := by decide +kernel
theorem dX9_marksAll_5 : decode cX9_marksAll 5 = .ok (.ifCond .eq 10, 3) := by decide +kernel
theorem dX9_marksAll_8 : decode cX9_marksAll 8 = .ok (.aload_n 0, 1) := by decide +kernel
theorem dX9_marksAll_9 : decode cX9_marksAll 9 = .ok (.iload_n 1, 1) := by decide +kernel
theorem dX9_marksAll_10 : decode cX9_marksAll 10 = .ok (.iload_n 2, 1) := by decide +kernel
theorem dX9_marksAll_11 : decode cX9_marksAll 11 = .ok (.invokevirtual 287, 3) := by decide +kernel
theorem dX9_marksAll_14 : decode cX9_marksAll 14 = .ok (.return_, 1) := by decide +kernel
theorem dX9_marksAll_15 : decode cX9_marksAll 15 = .ok (.aload_n 0, 1) := by decide +kernel
theorem dX9_marksAll_16 : decode cX9_marksAll 16 = .ok (.aload_n 0, 1) := by decide +kernel
theorem dX9_marksAll_17 : decode cX9_marksAll 17 = .ok (.getfield 69, 3) := by decide +kernel
theorem dX9_marksAll_20 : decode cX9_marksAll 20 = .ok (.iload_n 1, 1) := by decide +kernel
theorem dX9_marksAll_21 : decode cX9_marksAll 21 = .ok (.iaload, 1) := by decide +kernel
theorem dX9_marksAll_22 : decode cX9_marksAll 22 = .ok (.iload_n 2, 1) := by decide +kernel
theorem dX9_marksAll_23 : decode cX9_marksAll 23 = .ok (.invokevirtual 290, 3) := by decide +kernel
theorem dX9_marksAll_26 : decode cX9_marksAll 26 = .ok (.aload_n 0, 1) := by decide +kernel
theorem dX9_marksAll_27 : decode cX9_marksAll 27 = .ok (.getfield 66, 3) := by decide +kernel
theorem dX9_marksAll_30 : decode cX9_marksAll 30 = .ok (.iload_n 1, 1) := by decide +kernel
theorem dX9_marksAll_31 : decode cX9_marksAll 31 = .ok (.caload, 1) := by decide +kernel
theorem dX9_marksAll_32 : decode cX9_marksAll 32 = .ok (.bipush 120, 2) := by decide +kernel
theorem dX9_marksAll_34 : decode cX9_marksAll 34 = .ok (.if_icmp .eq 14, 3) := by decide +kernel
theorem dX9_marksAll_37 : decode cX9_marksAll 37 = .ok (.aload_n 0, 1) := by decide +kernel
theorem dX9_marksAll_38 : decode cX9_marksAll 38 = .ok (.aload_n 0, 1) := by decide +kernel
theorem dX9_marksAll_39 : decode cX9_marksAll 39 = .ok (.getfield 72, 3) := by decide +kernel
theorem dX9_marksAll_42 : decode cX9_marksAll 42 = .ok (.iload_n 1, 1) := by decide +kernel
theorem dX9_marksAll_43 : decode cX9_marksAll 43 = .ok (.iaload, 1) := by decide +kernel
theorem dX9_marksAll_44 : decode cX9_marksAll 44 = .ok (.iload_n 2, 1) := by decide +kernel
theorem dX9_marksAll_45 : decode cX9_marksAll 45 = .ok (.invokevirtual 290, 3) := by decide +kernel
theorem dX9_marksAll_48 : decode cX9_marksAll 48 = .ok (.return_, 1) := by decide +kernel
theorem dX9_marked_0 : decode cX9_marked 0 = .ok (.aload_n 0, 1) := by decide +kernel
theorem dX9_marked_1 : decode cX9_marked 1 = .ok (.iload_n 1, 1) := by decide +kernel
theorem dX9_marked_2 : decode cX9_marked 2 = .ok (.invokevirtual 219, 3) := by decide +kernel
theorem dX9_marked_5 : decode cX9_marked 5 = .ok (.ifCond .eq 15, 3) := by decide +kernel
theorem dX9_marked_8 : decode cX9_marked 8 = .ok (.aload_n 0, 1) := by decide +kernel
theorem dX9_marked_9 : decode cX9_marked 9 = .ok (.iload_n 2, 1) := by decide +kernel
theorem dX9_marked_10 : decode cX9_marked 10 = .ok (.invokevirtual 130, 3) := by decide +kernel
theorem dX9_marked_13 : decode cX9_marked 13 = .ok (.ifCond .eq 7, 3) := by decide +kernel
theorem dX9_marked_16 : decode cX9_marked 16 = .ok (.iconst 1, 1) := by decide +kernel
theorem dX9_marked_17 : decode cX9_marked 17 = .ok (.goto 4, 3) := by decide +kernel
theorem dX9_marked_20 : decode cX9_marked 20 = .ok (.iconst 0, 1) := by decide +kernel
theorem dX9_marked_21 : decode cX9_marked 21 = .ok (.istore 4, 2) := by decide +kernel
theorem dX9_marked_23 : decode cX9_marked 23 = .ok (.iload_n 3, 1) := by decide +kernel
theorem dX9_marked_24 : decode cX9_marked 24 = .ok (.istore 5, 2) := by decide +kernel
theorem dX9_marked_26 : decode cX9_marked 26 = .ok (.iconst (-1), 1) := by decide +kernel
theorem dX9_marked_27 : decode cX9_marked 27 = .ok (.istore 6, 2) := by decide +kernel
theorem dX9_marked_29 : decode cX9_marked 29 = .ok (.iconst 0, 1) := by decide +kernel
theorem dX9_marked_30 : decode cX9_marked 30 = .ok (.istore 7, 2) := by decide +kernel
theorem dX9_marked_32 : decode cX9_marked 32 = .ok (.iload 7, 2) := by decide +kernel
theorem dX9_marked_34 : decode cX9_marked 34 = .ok (.bipush 12, 2) := by decide +kernel
theorem dX9_marked_36 : decode cX9_marked 36 = .ok (.if_icmp .ge 17, 3) := by decide +kernel
theorem dX9_marked_39 : decode cX9_marked 39 = .ok (.aload_n 0, 1) := by decide +kernel
theorem dX9_marked_40 : decode cX9_marked 40 = .ok (.getfield 106, 3) := by decide +kernel
theorem dX9_marked_43 : decode cX9_marked 43 = .ok (.iload 7, 2) := by decide +kernel
theorem dX9_marked_45 : decode cX9_marked 45 = .ok (.iconst 0, 1) := by decide +kernel
theorem dX9_marked_46 : decode cX9_marked 46 = .ok (.bastore, 1) := by decide +kernel
theorem dX9_marked_47 : decode cX9_marked 47 = .ok (.iinc 7 1, 3) := by decide +kernel
theorem dX9_marked_50 : decode cX9_marked 50 = .ok (.goto (-18), 3) := by decide +kernel
theorem dX9_marked_53 : decode cX9_marked 53 = .ok (.iload 4, 2) := by decide +kernel
theorem dX9_marked_55 : decode cX9_marked 55 = .ok (.ifCond .eq 9, 3) := by decide +kernel
theorem dX9_marked_58 : decode cX9_marked 58 = .ok (.aload_n 0, 1) := by decide +kernel
theorem dX9_marked_59 : decode cX9_marked 59 = .ok (.iload_n 1, 1) := by decide +kernel
theorem dX9_marked_60 : decode cX9_marked 60 = .ok (.iload_n 2, 1) := by decide +kernel
theorem dX9_marked_61 : decode cX9_marked 61 = .ok (.invokevirtual 290, 3) := by decide +kernel
theorem dX9_marked_64 : decode cX9_marked 64 = .ok (.iconst 0, 1) := by decide +kernel
theorem dX9_marked_65 : decode cX9_marked 65 = .ok (.istore 7, 2) := by decide +kernel
theorem dX9_marked_67 : decode cX9_marked 67 = .ok (.iload 7, 2) := by decide +kernel
theorem dX9_marked_69 : decode cX9_marked 69 = .ok (.bipush 12, 2) := by decide +kernel
theorem dX9_marked_71 : decode cX9_marked 71 = .ok (.if_icmp .ge 62, 3) := by decide +kernel
theorem dX9_marked_74 : decode cX9_marked 74 = .ok (.iload_n 3, 1) := by decide +kernel
theorem dX9_marked_75 : decode cX9_marked 75 = .ok (.ifCond .lt 58, 3) := by decide +kernel
theorem dX9_marked_78 : decode cX9_marked 78 = .ok (.iload 6, 2) := by decide +kernel
theorem dX9_marked_80 : decode cX9_marked 80 = .ok (.iconst (-1), 1) := by decide +kernel
theorem dX9_marked_81 : decode cX9_marked 81 = .ok (.if_icmp .ne 52, 3) := by decide +kernel
theorem dX9_marked_84 : decode cX9_marked 84 = .ok (.aload_n 0, 1) := by decide +kernel
theorem dX9_marked_85 : decode cX9_marked 85 = .ok (.getfield 106, 3) := by decide +kernel
theorem dX9_marked_88 : decode cX9_marked 88 = .ok (.iload 7, 2) := by decide +kernel
theorem dX9_marked_90 : decode cX9_marked 90 = .ok (.baload, 1) := by decide +kernel
theorem dX9_marked_91 : decode cX9_marked 91 = .ok (.ifCond .eq 13, 3) := by decide +kernel
theorem dX9_marked_94 : decode cX9_marked 94 = .ok (.iload 5, 2) := by decide +kernel
theorem dX9_marked_96 : decode cX9_marked 96 = .ok (.ifCond .ne 8, 3) := by decide +kernel
theorem dX9_marked_99 : decode cX9_marked 99 = .ok (.iload 7, 2) := by decide +kernel
theorem dX9_marked_101 : decode cX9_marked 101 = .ok (.goto 4, 3) := by decide +kernel
theorem dX9_marked_104 : decode cX9_marked 104 = .ok (.iconst (-1), 1) := by decide +kernel
theorem dX9_marked_105 : decode cX9_marked 105 = .ok (.istore 6, 2) := by decide +kernel
theorem dX9_marked_107 : decode cX9_marked 107 = .ok (.iload 5, 2) := by decide +kernel
theorem dX9_marked_109 : decode cX9_marked 109 = .ok (.aload_n 0, 1) := by decide +kernel
theorem dX9_marked_110 : decode cX9_marked 110 = .ok (.getfield 106, 3) := by decide +kernel
theorem dX9_marked_113 : decode cX9_marked 113 = .ok (.iload 7, 2) := by decide +kernel
theorem dX9_marked_115 : decode cX9_marked 115 = .ok (.baload, 1) := by decide +kernel
theorem dX9_marked_116 : decode cX9_marked 116 = .ok (.ifCond .eq 7, 3) := by decide +kernel
theorem dX9_marked_119 : decode cX9_marked 119 = .ok (.iconst 1, 1) := by decide +kernel
theorem dX9_marked_120 : decode cX9_marked 120 = .ok (.goto 4, 3) := by decide +kernel
theorem dX9_marked_123 : decode cX9_marked 123 = .ok (.iconst 0, 1) := by decide +kernel
theorem dX9_marked_124 : decode cX9_marked 124 = .ok (.isub, 1) := by decide +kernel
theorem dX9_marked_125 : decode cX9_marked 125 = .ok (.istore 5, 2) := by decide +kernel
theorem dX9_marked_127 : decode cX9_marked 127 = .ok (.iinc 7 1, 3) := by decide +kernel
theorem dX9_marked_130 : decode cX9_marked 130 = .ok (.goto (-63), 3) := by decide +kernel
theorem dX9_marked_133 : decode cX9_marked 133 = .ok (.aload_n 0, 1) := by decide +kernel
theorem dX9_marked_134 : decode cX9_marked 134 = .ok (.iload 4, 2) := by decide +kernel
theorem dX9_marked_136 : decode cX9_marked 136 = .ok (.ifCond .ne 7, 3) := by decide +kernel
theorem dX9_marked_139 : decode cX9_marked 139 = .ok (.iconst 1, 1) := by decide +kernel
theorem dX9_marked_140 : decode cX9_marked 140 = .ok (.goto 14, 3) := by decide +kernel
theorem dX9_marked_143 : decode cX9_marked 143 = .ok (.iload 6, 2) := by decide +kernel
theorem dX9_marked_145 : decode cX9_marked 145 = .ok (.iconst (-1), 1) := by decide +kernel
theorem dX9_marked_146 : decode cX9_marked 146 = .ok (.if_icmp .ne 7, 3) := by decide +kernel
theorem dX9_marked_149 : decode cX9_marked 149 = .ok (.iconst 2, 1) := by decide +kernel
theorem dX9_marked_150 : decode cX9_marked 150 = .ok (.goto 4, 3) := by decide +kernel
theorem dX9_marked_153 : decode cX9_marked 153 = .ok (.iconst 0, 1) := by decide +kernel
theorem dX9_marked_154 : decode cX9_marked 154 = .ok (.invokevirtual 127, 3) := by decide +kernel
theorem dX9_marked_157 : decode cX9_marked 157 = .ok (.ifCond .eq 8, 3) := by decide +kernel
theorem dX9_marked_160 : decode cX9_marked 160 = .ok (.iload 6, 2) := by decide +kernel
theorem dX9_marked_162 : decode cX9_marked 162 = .ok (.goto 4, 3) := by decide +kernel
theorem dX9_marked_165 : decode cX9_marked 165 = .ok (.iconst 0, 1) := by decide +kernel
theorem dX9_marked_166 : decode cX9_marked 166 = .ok (.ireturn, 1) := by decide +kernel
theorem dX9_click_0 : decode cX9_click 0 = .ok (.aload_n 0, 1) := by decide +kernel
theorem dX9_click_1 : decode cX9_click 1 = .ok (.aload_n 0, 1) := by decide +kernel
theorem dX9_click_2 : decode cX9_click 2 = .ok (.iload_n 1, 1) := by decide +kernel
theorem dX9_click_3 : decode cX9_click 3 = .ok (.invokevirtual 130, 3) := by decide +kernel
theorem dX9_click_6 : decode cX9_click 6 = .ok (.ifCond .eq 7, 3) := by decide +kernel
theorem dX9_click_9 : decode cX9_click 9 = .ok (.iconst 0, 1) := by decide +kernel
theorem dX9_click_10 : decode cX9_click 10 = .ok (.goto 4, 3) := by decide +kernel
theorem dX9_click_13 : decode cX9_click 13 = .ok (.iconst 1, 1) := by decide +kernel
theorem dX9_click_14 : decode cX9_click 14 = .ok (.invokevirtual 127, 3) := by decide +kernel
theorem dX9_click_17 : decode cX9_click 17 = .ok (.ifCond .ne 5, 3) := by decide +kernel
theorem dX9_click_20 : decode cX9_click 20 = .ok (.iconst 0, 1) := by decide +kernel
theorem dX9_click_21 : decode cX9_click 21 = .ok (.ireturn, 1) := by decide +kernel
theorem dX9_click_22 : decode cX9_click 22 = .ok (.aload_n 0, 1) := by decide +kernel
theorem dX9_click_23 : decode cX9_click 23 = .ok (.getfield 32, 3) := by decide +kernel
theorem dX9_click_26 : decode cX9_click 26 = .ok (.iload_n 1, 1) := by decide +kernel
theorem dX9_click_27 : decode cX9_click 27 = .ok (.dup2, 1) := by decide +kernel
theorem dX9_click_28 : decode cX9_click 28 = .ok (.iaload, 1) := by decide +kernel
theorem dX9_click_29 : decode cX9_click 29 = .ok (.iconst 1, 1) := by decide +kernel
theorem dX9_click_30 : decode cX9_click 30 = .ok (.iadd, 1) := by decide +kernel
theorem dX9_click_31 : decode cX9_click 31 = .ok (.iastore, 1) := by decide +kernel
theorem dX9_click_32 : decode cX9_click 32 = .ok (.aload_n 0, 1) := by decide +kernel
theorem dX9_click_33 : decode cX9_click 33 = .ok (.getfield 32, 3) := by decide +kernel
theorem dX9_click_36 : decode cX9_click 36 = .ok (.iload_n 1, 1) := by decide +kernel
theorem dX9_click_37 : decode cX9_click 37 = .ok (.iaload, 1) := by decide +kernel
theorem dX9_click_38 : decode cX9_click 38 = .ok (.ireturn, 1) := by decide +kernel
theorem dX9_setBound_0 : decode cX9_setBound 0 = .ok (.aload_n 0, 1) := by decide +kernel
theorem dX9_setBound_1 : decode cX9_setBound 1 = .ok (.iload_n 1, 1) := by decide +kernel
theorem dX9_setBound_2 : decode cX9_setBound 2 = .ok (.iconst 0, 1) := by decide +kernel
theorem dX9_setBound_3 : decode cX9_setBound 3 = .ok (.sipush 999, 3) := by decide +kernel
theorem dX9_setBound_6 : decode cX9_setBound 6 = .ok (.invokestatic 113, 3) := by decide +kernel
theorem dX9_setBound_9 : decode cX9_setBound 9 = .ok (.ifCond .eq 7, 3) := by decide +kernel
theorem dX9_setBound_12 : decode cX9_setBound 12 = .ok (.iconst 0, 1) := by decide +kernel
theorem dX9_setBound_13 : decode cX9_setBound 13 = .ok (.goto 4, 3) := by decide +kernel
theorem dX9_setBound_16 : decode cX9_setBound 16 = .ok (.iconst 1, 1) := by decide +kernel
theorem dX9_setBound_17 : decode cX9_setBound 17 = .ok (.invokevirtual 127, 3) := by decide +kernel
theorem dX9_setBound_20 : decode cX9_setBound 20 = .ok (.ifCond .ne 5, 3) := by decide +kernel
theorem dX9_setBound_23 : decode cX9_setBound 23 = .ok (.iconst 0, 1) := by decide +kernel
theorem dX9_setBound_24 : decode cX9_setBound 24 = .ok (.ireturn, 1) := by decide +kernel
theorem dX9_setBound_25 : decode cX9_setBound 25 = .ok (.aload_n 0, 1) := by decide +kernel
theorem dX9_setBound_26 : decode cX9_setBound 26 = .ok (.getfield 251, 3) := by decide +kernel
theorem dX9_setBound_29 : decode cX9_setBound 29 = .ok (.istore_n 2, 1) := by decide +kernel
theorem dX9_setBound_30 : decode cX9_setBound 30 = .ok (.aload_n 0, 1) := by decide +kernel
theorem dX9_setBound_31 : decode cX9_setBound 31 = .ok (.iload_n 1, 1) := by decide +kernel
theorem dX9_setBound_32 : decode cX9_setBound 32 = .ok (.putfield 251, 3) := by decide +kernel
theorem dX9_setBound_35 : decode cX9_setBound 35 = .ok (.iload_n 2, 1) := by decide +kernel
theorem dX9_setBound_36 : decode cX9_setBound 36 = .ok (.ireturn, 1) := by decide +kernel
theorem dX9_turned_0 : decode cX9_turned 0 = .ok (.aload_n 0, 1) := by decide +kernel
theorem dX9_turned_1 : decode cX9_turned 1 = .ok (.aload_n 0, 1) := by decide +kernel
theorem dX9_turned_2 : decode cX9_turned 2 = .ok (.iload_n 1, 1) := by decide +kernel
theorem dX9_turned_3 : decode cX9_turned 3 = .ok (.iload_n 2, 1) := by decide +kernel
theorem dX9_turned_4 : decode cX9_turned 4 = .ok (.invokevirtual 267, 3) := by decide +kernel
theorem dX9_turned_7 : decode cX9_turned 7 = .ok (.invokevirtual 127, 3) := by decide +kernel
theorem dX9_turned_10 : decode cX9_turned 10 = .ok (.ifCond .ne 5, 3) := by decide +kernel
theorem dX9_turned_13 : decode cX9_turned 13 = .ok (.iconst 0, 1) := by decide +kernel
theorem dX9_turned_14 : decode cX9_turned 14 = .ok (.ireturn, 1) := by decide +kernel
theorem dX9_turned_15 : decode cX9_turned 15 = .ok (.iconst 0, 1) := by decide +kernel
theorem dX9_turned_16 : decode cX9_turned 16 = .ok (.istore_n 3, 1) := by decide +kernel
theorem dX9_turned_17 : decode cX9_turned 17 = .ok (.iconst 0, 1) := by decide +kernel
theorem dX9_turned_18 : decode cX9_turned 18 = .ok (.istore 4, 2) := by decide +kernel
theorem dX9_turned_20 : decode cX9_turned 20 = .ok (.iload 4, 2) := by decide +kernel
theorem dX9_turned_22 : decode cX9_turned 22 = .ok (.aload_n 0, 1) := by decide +kernel
theorem dX9_turned_23 : decode cX9_turned 23 = .ok (.getfield 254, 3) := by decide +kernel
theorem dX9_turned_26 : decode cX9_turned 26 = .ok (.if_icmp .ge 51, 3) := by decide +kernel
theorem dX9_turned_29 : decode cX9_turned 29 = .ok (.iconst 0, 1) := by decide +kernel
theorem dX9_turned_30 : decode cX9_turned 30 = .ok (.istore 5, 2) := by decide +kernel
theorem dX9_turned_32 : decode cX9_turned 32 = .ok (.iload 5, 2) := by decide +kernel
theorem dX9_turned_34 : decode cX9_turned 34 = .ok (.iload 4, 2) := by decide +kernel
theorem dX9_turned_36 : decode cX9_turned 36 = .ok (.if_icmp .ge 35, 3) := by decide +kernel
theorem dX9_turned_39 : decode cX9_turned 39 = .ok (.iload_n 3, 1) := by decide +kernel
theorem dX9_turned_40 : decode cX9_turned 40 = .ok (.aload_n 0, 1) := by decide +kernel
theorem dX9_turned_41 : decode cX9_turned 41 = .ok (.getfield 102, 3) := by decide +kernel
theorem dX9_turned_44 : decode cX9_turned 44 = .ok (.iload 5, 2) := by decide +kernel
theorem dX9_turned_46 : decode cX9_turned 46 = .ok (.laload, 1) := by decide +kernel
theorem dX9_turned_47 : decode cX9_turned 47 = .ok (.aload_n 0, 1) := by decide +kernel
theorem dX9_turned_48 : decode cX9_turned 48 = .ok (.getfield 102, 3) := by decide +kernel
theorem dX9_turned_51 : decode cX9_turned 51 = .ok (.iload 4, 2) := by decide +kernel
theorem dX9_turned_53 : decode cX9_turned 53 = .ok (.laload, 1) := by decide +kernel
theorem dX9_turned_54 : decode cX9_turned 54 = .ok (.lcmp, 1) := by decide +kernel
theorem dX9_turned_55 : decode cX9_turned 55 = .ok (.ifCond .ge 7, 3) := by decide +kernel
theorem dX9_turned_58 : decode cX9_turned 58 = .ok (.iconst 1, 1) := by decide +kernel
theorem dX9_turned_59 : decode cX9_turned 59 = .ok (.goto 4, 3) := by decide +kernel
theorem dX9_turned_62 : decode cX9_turned 62 = .ok (.iconst 0, 1) := by decide +kernel
theorem dX9_turned_63 : decode cX9_turned 63 = .ok (.iadd, 1) := by decide +kernel
theorem dX9_turned_64 : decode cX9_turned 64 = .ok (.istore_n 3, 1) := by decide +kernel
theorem dX9_turned_65 : decode cX9_turned 65 = .ok (.iinc 5 1, 3) := by decide +kernel
theorem dX9_turned_68 : decode cX9_turned 68 = .ok (.goto (-36), 3) := by decide +kernel
theorem dX9_turned_71 : decode cX9_turned 71 = .ok (.iinc 4 1, 3) := by decide +kernel
theorem dX9_turned_74 : decode cX9_turned 74 = .ok (.goto (-54), 3) := by decide +kernel
theorem dX9_turned_77 : decode cX9_turned 77 = .ok (.iload_n 3, 1) := by decide +kernel
theorem dX9_turned_78 : decode cX9_turned 78 = .ok (.ireturn, 1) := by decide +kernel
theorem dX9_removedShare_0 : decode cX9_removedShare 0 = .ok (.iconst 0, 1) := by decide +kernel
theorem dX9_removedShare_1 : decode cX9_removedShare 1 = .ok (.istore_n 1, 1) := by decide +kernel
theorem dX9_removedShare_2 : decode cX9_removedShare 2 = .ok (.iconst 0, 1) := by decide +kernel
theorem dX9_removedShare_3 : decode cX9_removedShare 3 = .ok (.istore_n 2, 1) := by decide +kernel
theorem dX9_removedShare_4 : decode cX9_removedShare 4 = .ok (.iconst 0, 1) := by decide +kernel
theorem dX9_removedShare_5 : decode cX9_removedShare 5 = .ok (.istore_n 3, 1) := by decide +kernel
theorem dX9_removedShare_6 : decode cX9_removedShare 6 = .ok (.iload_n 3, 1) := by decide +kernel
theorem dX9_removedShare_7 : decode cX9_removedShare 7 = .ok (.aload_n 0, 1) := by decide +kernel
theorem dX9_removedShare_8 : decode cX9_removedShare 8 = .ok (.getfield 117, 3) := by decide +kernel
theorem dX9_removedShare_11 : decode cX9_removedShare 11 = .ok (.if_icmp .ge 56, 3) := by decide +kernel
theorem dX9_removedShare_14 : decode cX9_removedShare 14 = .ok (.iload_n 2, 1) := by decide +kernel
theorem dX9_removedShare_15 : decode cX9_removedShare 15 = .ok (.aload_n 0, 1) := by decide +kernel
theorem dX9_removedShare_16 : decode cX9_removedShare 16 = .ok (.getfield 47, 3) := by decide +kernel
theorem dX9_removedShare_19 : decode cX9_removedShare 19 = .ok (.iload_n 3, 1) := by decide +kernel
theorem dX9_removedShare_20 : decode cX9_removedShare 20 = .ok (.iaload, 1) := by decide +kernel
theorem dX9_removedShare_21 : decode cX9_removedShare 21 = .ok (.iconst (-1), 1) := by decide +kernel
theorem dX9_removedShare_22 : decode cX9_removedShare 22 = .ok (.if_icmp .eq 7, 3) := by decide +kernel
theorem dX9_removedShare_25 : decode cX9_removedShare 25 = .ok (.iconst 1, 1) := by decide +kernel
theorem dX9_removedShare_26 : decode cX9_removedShare 26 = .ok (.goto 4, 3) := by decide +kernel
theorem dX9_removedShare_29 : decode cX9_removedShare 29 = .ok (.iconst 0, 1) := by decide +kernel
theorem dX9_removedShare_30 : decode cX9_removedShare 30 = .ok (.iadd, 1) := by decide +kernel
theorem dX9_removedShare_31 : decode cX9_removedShare 31 = .ok (.istore_n 2, 1) := by decide +kernel
theorem dX9_removedShare_32 : decode cX9_removedShare 32 = .ok (.iload_n 1, 1) := by decide +kernel
theorem dX9_removedShare_33 : decode cX9_removedShare 33 = .ok (.aload_n 0, 1) := by decide +kernel
theorem dX9_removedShare_34 : decode cX9_removedShare 34 = .ok (.getfield 47, 3) := by decide +kernel
theorem dX9_removedShare_37 : decode cX9_removedShare 37 = .ok (.iload_n 3, 1) := by decide +kernel
theorem dX9_removedShare_38 : decode cX9_removedShare 38 = .ok (.iaload, 1) := by decide +kernel
theorem dX9_removedShare_39 : decode cX9_removedShare 39 = .ok (.iconst (-1), 1) := by decide +kernel
theorem dX9_removedShare_40 : decode cX9_removedShare 40 = .ok (.if_icmp .eq 18, 3) := by decide +kernel
theorem dX9_removedShare_43 : decode cX9_removedShare 43 = .ok (.aload_n 0, 1) := by decide +kernel
theorem dX9_removedShare_44 : decode cX9_removedShare 44 = .ok (.getfield 23, 3) := by decide +kernel
theorem dX9_removedShare_47 : decode cX9_removedShare 47 = .ok (.iload_n 3, 1) := by decide +kernel
theorem dX9_removedShare_48 : decode cX9_removedShare 48 = .ok (.caload, 1) := by decide +kernel
theorem dX9_removedShare_49 : decode cX9_removedShare 49 = .ok (.bipush 114, 2) := by decide +kernel
theorem dX9_removedShare_51 : decode cX9_removedShare 51 = .ok (.if_icmp .ne 7, 3) := by decide +kernel
theorem dX9_removedShare_54 : decode cX9_removedShare 54 = .ok (.iconst 1, 1) := by decide +kernel
theorem dX9_removedShare_55 : decode cX9_removedShare 55 = .ok (.goto 4, 3) := by decide +kernel
theorem dX9_removedShare_58 : decode cX9_removedShare 58 = .ok (.iconst 0, 1) := by decide +kernel
theorem dX9_removedShare_59 : decode cX9_removedShare 59 = .ok (.iadd, 1) := by decide +kernel
theorem dX9_removedShare_60 : decode cX9_removedShare 60 = .ok (.istore_n 1, 1) := by decide +kernel
theorem dX9_removedShare_61 : decode cX9_removedShare 61 = .ok (.iinc 3 1, 3) := by decide +kernel
theorem dX9_removedShare_64 : decode cX9_removedShare 64 = .ok (.goto (-58), 3) := by decide +kernel
theorem dX9_removedShare_67 : decode cX9_removedShare 67 = .ok (.aload_n 0, 1) := by decide +kernel
theorem dX9_removedShare_68 : decode cX9_removedShare 68 = .ok (.iload_n 2, 1) := by decide +kernel
theorem dX9_removedShare_69 : decode cX9_removedShare 69 = .ok (.ifCond .ne 7, 3) := by decide +kernel
theorem dX9_removedShare_72 : decode cX9_removedShare 72 = .ok (.iconst 1, 1) := by decide +kernel
theorem dX9_removedShare_73 : decode cX9_removedShare 73 = .ok (.goto 4, 3) := by decide +kernel
theorem dX9_removedShare_76 : decode cX9_removedShare 76 = .ok (.iconst 0, 1) := by decide +kernel
theorem dX9_removedShare_77 : decode cX9_removedShare 77 = .ok (.invokevirtual 127, 3) := by decide +kernel
theorem dX9_removedShare_80 : decode cX9_removedShare 80 = .ok (.ifCond .eq 11, 3) := by decide +kernel
theorem dX9_removedShare_83 : decode cX9_removedShare 83 = .ok (.iload_n 1, 1) := by decide +kernel
theorem dX9_removedShare_84 : decode cX9_removedShare 84 = .ok (.i2f, 1) := by decide +kernel
theorem dX9_removedShare_85 : decode cX9_removedShare 85 = .ok (.iload_n 2, 1) := by decide +kernel
theorem dX9_removedShare_86 : decode cX9_removedShare 86 = .ok (.i2f, 1) := by decide +kernel
theorem dX9_removedShare_87 : decode cX9_removedShare 87 = .ok (.fdiv, 1) := by decide +kernel
theorem dX9_removedShare_88 : decode cX9_removedShare 88 = .ok (.goto 4, 3) := by decide +kernel
theorem dX9_removedShare_91 : decode cX9_removedShare 91 = .ok (.fconst 0, 1) := by decide +kernel
theorem dX9_removedShare_92 : decode cX9_removedShare 92 = .ok (.freturn, 1) := by decide +kernel
theorem dX9_meanLength_0 : decode cX9_meanLength 0 = .ok (.aload_n 0, 1) := by decide +kernel
theorem dX9_meanLength_1 : decode cX9_meanLength 1 = .ok (.iload_n 1, 1) := by decide +kernel
theorem dX9_meanLength_2 : decode cX9_meanLength 2 = .ok (.invokevirtual 206, 3) := by decide +kernel
theorem dX9_meanLength_5 : decode cX9_meanLength 5 = .ok (.istore_n 2, 1) := by decide +kernel
theorem dX9_meanLength_6 : decode cX9_meanLength 6 = .ok (.iconst 0, 1) := by decide +kernel
theorem dX9_meanLength_7 : decode cX9_meanLength 7 = .ok (.istore_n 3, 1) := by decide +kernel
theorem dX9_meanLength_8 : decode cX9_meanLength 8 = .ok (.iconst 0, 1) := by decide +kernel
theorem dX9_meanLength_9 : decode cX9_meanLength 9 = .ok (.istore 4, 2) := by decide +kernel
theorem dX9_meanLength_11 : decode cX9_meanLength 11 = .ok (.iload 4, 2) := by decide +kernel
theorem dX9_meanLength_13 : decode cX9_meanLength 13 = .ok (.aload_n 0, 1) := by decide +kernel
theorem dX9_meanLength_14 : decode cX9_meanLength 14 = .ok (.getfield 117, 3) := by decide +kernel
theorem dX9_meanLength_17 : decode cX9_meanLength 17 = .ok (.if_icmp .ge 43, 3) := by decide +kernel
theorem dX9_meanLength_20 : decode cX9_meanLength 20 = .ok (.iload_n 2, 1) := by decide +kernel
theorem dX9_meanLength_21 : decode cX9_meanLength 21 = .ok (.iconst (-1), 1) := by decide +kernel
theorem dX9_meanLength_22 : decode cX9_meanLength 22 = .ok (.if_icmp .eq 38, 3) := by decide +kernel
theorem dX9_meanLength_25 : decode cX9_meanLength 25 = .ok (.iload_n 3, 1) := by decide +kernel
theorem dX9_meanLength_26 : decode cX9_meanLength 26 = .ok (.aload_n 0, 1) := by decide +kernel
theorem dX9_meanLength_27 : decode cX9_meanLength 27 = .ok (.getfield 63, 3) := by decide +kernel
theorem dX9_meanLength_30 : decode cX9_meanLength 30 = .ok (.bipush 30, 2) := by decide +kernel
theorem dX9_meanLength_32 : decode cX9_meanLength 32 = .ok (.iload_n 2, 1) := by decide +kernel
theorem dX9_meanLength_33 : decode cX9_meanLength 33 = .ok (.imul, 1) := by decide +kernel
theorem dX9_meanLength_34 : decode cX9_meanLength 34 = .ok (.iload 4, 2) := by decide +kernel
theorem dX9_meanLength_36 : decode cX9_meanLength 36 = .ok (.iadd, 1) := by decide +kernel
theorem dX9_meanLength_37 : decode cX9_meanLength 37 = .ok (.baload, 1) := by decide +kernel
theorem dX9_meanLength_38 : decode cX9_meanLength 38 = .ok (.ifCond .eq 13, 3) := by decide +kernel
theorem dX9_meanLength_41 : decode cX9_meanLength 41 = .ok (.aload_n 0, 1) := by decide +kernel
theorem dX9_meanLength_42 : decode cX9_meanLength 42 = .ok (.getfield 35, 3) := by decide +kernel
theorem dX9_meanLength_45 : decode cX9_meanLength 45 = .ok (.iload 4, 2) := by decide +kernel
theorem dX9_meanLength_47 : decode cX9_meanLength 47 = .ok (.iaload, 1) := by decide +kernel
theorem dX9_meanLength_48 : decode cX9_meanLength 48 = .ok (.goto 4, 3) := by decide +kernel
theorem dX9_meanLength_51 : decode cX9_meanLength 51 = .ok (.iconst 0, 1) := by decide +kernel
theorem dX9_meanLength_52 : decode cX9_meanLength 52 = .ok (.iadd, 1) := by decide +kernel
theorem dX9_meanLength_53 : decode cX9_meanLength 53 = .ok (.istore_n 3, 1) := by decide +kernel
theorem dX9_meanLength_54 : decode cX9_meanLength 54 = .ok (.iinc 4 1, 3) := by decide +kernel
theorem dX9_meanLength_57 : decode cX9_meanLength 57 = .ok (.goto (-46), 3) := by decide +kernel
theorem dX9_meanLength_60 : decode cX9_meanLength 60 = .ok (.aload_n 0, 1) := by decide +kernel
theorem dX9_meanLength_61 : decode cX9_meanLength 61 = .ok (.iload_n 2, 1) := by decide +kernel
theorem dX9_meanLength_62 : decode cX9_meanLength 62 = .ok (.iconst (-1), 1) := by decide +kernel
theorem dX9_meanLength_63 : decode cX9_meanLength 63 = .ok (.if_icmp .ne 7, 3) := by decide +kernel
theorem dX9_meanLength_66 : decode cX9_meanLength 66 = .ok (.iconst 1, 1) := by decide +kernel
theorem dX9_meanLength_67 : decode cX9_meanLength 67 = .ok (.goto 16, 3) := by decide +kernel
theorem dX9_meanLength_70 : decode cX9_meanLength 70 = .ok (.aload_n 0, 1) := by decide +kernel
theorem dX9_meanLength_71 : decode cX9_meanLength 71 = .ok (.iload_n 2, 1) := by decide +kernel
theorem dX9_meanLength_72 : decode cX9_meanLength 72 = .ok (.invokevirtual 209, 3) := by decide +kernel
theorem dX9_meanLength_75 : decode cX9_meanLength 75 = .ok (.ifCond .ne 7, 3) := by decide +kernel
theorem dX9_meanLength_78 : decode cX9_meanLength 78 = .ok (.iconst 2, 1) := by decide +kernel
theorem dX9_meanLength_79 : decode cX9_meanLength 79 = .ok (.goto 4, 3) := by decide +kernel
theorem dX9_meanLength_82 : decode cX9_meanLength 82 = .ok (.iconst 0, 1) := by decide +kernel
theorem dX9_meanLength_83 : decode cX9_meanLength 83 = .ok (.invokevirtual 127, 3) := by decide +kernel
theorem dX9_meanLength_86 : decode cX9_meanLength 86 = .ok (.ifCond .eq 15, 3) := by decide +kernel
theorem dX9_meanLength_89 : decode cX9_meanLength 89 = .ok (.iload_n 3, 1) := by decide +kernel
theorem dX9_meanLength_90 : decode cX9_meanLength 90 = .ok (.i2d, 1) := by decide +kernel
theorem dX9_meanLength_91 : decode cX9_meanLength 91 = .ok (.aload_n 0, 1) := by decide +kernel
theorem dX9_meanLength_92 : decode cX9_meanLength 92 = .ok (.iload_n 2, 1) := by decide +kernel
theorem dX9_meanLength_93 : decode cX9_meanLength 93 = .ok (.invokevirtual 209, 3) := by decide +kernel
theorem dX9_meanLength_96 : decode cX9_meanLength 96 = .ok (.i2d, 1) := by decide +kernel
theorem dX9_meanLength_97 : decode cX9_meanLength 97 = .ok (.ddiv, 1) := by decide +kernel
theorem dX9_meanLength_98 : decode cX9_meanLength 98 = .ok (.goto 4, 3) := by decide +kernel
theorem dX9_meanLength_101 : decode cX9_meanLength 101 = .ok (.dconst 0, 1) := by decide +kernel
theorem dX9_meanLength_102 : decode cX9_meanLength 102 = .ok (.dreturn, 1) := by decide +kernel
theorem dJx00060_init_a7421_0 : decode cJx00060_init_a7421 0 = .ok (.aload_n 0, 1) := by decide +kernel
theorem dJx00060_init_a7421_1 : decode cJx00060_init_a7421 1 = .ok (.aload_n 1, 1) := by decide +kernel
theorem dJx00060_init_a7421_2 : decode cJx00060_init_a7421 2 = .ok (.invokespecial 7, 3) := by decide +kernel
theorem dJx00060_init_a7421_5 : decode cJx00060_init_a7421 5 = .ok (.return_, 1) := by decide +kernel
theorem dJ9_max_7cf53_0 : decode cJ9_max_7cf53 0 = .ok (.iload_n 0, 1) := by decide +kernel
theorem dJ9_max_7cf53_1 : decode cJ9_max_7cf53 1 = .ok (.iload_n 1, 1) := by decide +kernel
theorem dJ9_max_7cf53_2 : decode cJ9_max_7cf53 2 = .ok (.if_icmp .lt 7, 3) := by decide +kernel
theorem dJ9_max_7cf53_5 : decode cJ9_max_7cf53 5 = .ok (.iload_n 0, 1) := by decide +kernel
theorem dJ9_max_7cf53_6 : decode cJ9_max_7cf53 6 = .ok (.goto 4, 3) := by decide +kernel
theorem dJ9_max_7cf53_9 : decode cJ9_max_7cf53 9 = .ok (.iload_n 1, 1) := by decide +kernel
theorem dJ9_max_7cf53_10 : decode cJ9_max_7cf53 10 = .ok (.ireturn, 1) := by decide +kernel
theorem dJ9_min_7cf53_0 : decode cJ9_min_7cf53 0 = .ok (.iload_n 0, 1) := by decide +kernel
theorem dJ9_min_7cf53_1 : decode cJ9_min_7cf53 1 = .ok (.iload_n 1, 1) := by decide +kernel
theorem dJ9_min_7cf53_2 : decode cJ9_min_7cf53 2 = .ok (.if_icmp .gt 7, 3) := by decide +kernel
theorem dJ9_min_7cf53_5 : decode cJ9_min_7cf53 5 = .ok (.iload_n 0, 1) := by decide +kernel
theorem dJ9_min_7cf53_6 : decode cJ9_min_7cf53 6 = .ok (.goto 4, 3) := by decide +kernel
theorem dJ9_min_7cf53_9 : decode cJ9_min_7cf53 9 = .ok (.iload_n 1, 1) := by decide +kernel
theorem dJ9_min_7cf53_10 : decode cJ9_min_7cf53 10 = .ok (.ireturn, 1) := by decide +kernel
theorem dJxa1e45_init_da8c8_0 : decode cJxa1e45_init_da8c8 0 = .ok (.aload_n 0, 1) := by decide +kernel
theorem dJxa1e45_init_da8c8_1 : decode cJxa1e45_init_da8c8 1 = .ok (.invokespecial 1, 3) := by decide +kernel
theorem dJxa1e45_init_da8c8_4 : decode cJxa1e45_init_da8c8 4 = .ok (.return_, 1) := by decide +kernel
theorem dJxc12de_init_da8c8_0 : decode cJxc12de_init_da8c8 0 = .ok (.aload_n 0, 1) := by decide +kernel
theorem dJxc12de_init_da8c8_1 : decode cJxc12de_init_da8c8 1 = .ok (.invokespecial 1, 3) := by decide +kernel
theorem dJxc12de_init_da8c8_4 : decode cJxc12de_init_da8c8 4 = .ok (.aload_n 0, 1) := by decide +kernel
theorem dJxc12de_init_da8c8_5 : decode cJxc12de_init_da8c8 5 = .ok (.iconst 0, 1) := by decide +kernel
theorem dJxc12de_init_da8c8_6 : decode cJxc12de_init_da8c8 6 = .ok (.putfield 7, 3) := by decide +kernel
theorem dJxc12de_init_da8c8_9 : decode cJxc12de_init_da8c8 9 = .ok (.return_, 1) := by decide +kernel
theorem dJx4a65c_init_da8c8_0 : decode cJx4a65c_init_da8c8 0 = .ok (.aload_n 0, 1) := by decide +kernel
theorem dJx4a65c_init_da8c8_1 : decode cJx4a65c_init_da8c8 1 = .ok (.invokespecial 1, 3) := by decide +kernel
theorem dJx4a65c_init_da8c8_4 : decode cJx4a65c_init_da8c8 4 = .ok (.aload_n 0, 1) := by decide +kernel
theorem dJx4a65c_init_da8c8_5 : decode cJx4a65c_init_da8c8 5 = .ok (.getstatic 39, 3) := by decide +kernel
theorem dJx4a65c_init_da8c8_8 : decode cJx4a65c_init_da8c8 8 = .ok (.putfield 9, 3) := by decide +kernel
theorem dJx4a65c_init_da8c8_11 : decode cJx4a65c_init_da8c8 11 = .ok (.return_, 1) := by decide +kernel
theorem dJx4a65c_grow_92f84_0 : decode cJx4a65c_grow_92f84 0 = .ok (.aload_n 0, 1) := by decide +kernel
theorem dJx4a65c_grow_92f84_1 : decode cJx4a65c_grow_92f84 1 = .ok (.getfield 9, 3) := by decide +kernel
theorem dJx4a65c_grow_92f84_4 : decode cJx4a65c_grow_92f84 4 = .ok (.arraylength, 1) := by decide +kernel
theorem dJx4a65c_grow_92f84_5 : decode cJx4a65c_grow_92f84 5 = .ok (.istore_n 2, 1) := by decide +kernel
theorem dJx4a65c_grow_92f84_6 : decode cJx4a65c_grow_92f84 6 = .ok (.iload_n 2, 1) := by decide +kernel
theorem dJx4a65c_grow_92f84_7 : decode cJx4a65c_grow_92f84 7 = .ok (.ifCond .gt 13, 3) := by decide +kernel
theorem dJx4a65c_grow_92f84_10 : decode cJx4a65c_grow_92f84 10 = .ok (.aload_n 0, 1) := by decide +kernel
theorem dJx4a65c_grow_92f84_11 : decode cJx4a65c_grow_92f84 11 = .ok (.getfield 9, 3) := by decide +kernel
theorem dJx4a65c_grow_92f84_14 : decode cJx4a65c_grow_92f84 14 = .ok (.getstatic 39, 3) := by decide +kernel
theorem dJx4a65c_grow_92f84_17 : decode cJx4a65c_grow_92f84 17 = .ok (.if_acmp .eq 28, 3) := by decide +kernel
theorem dJx4a65c_grow_92f84_20 : decode cJx4a65c_grow_92f84 20 = .ok (.iload_n 2, 1) := by decide +kernel
theorem dJx4a65c_grow_92f84_21 : decode cJx4a65c_grow_92f84 21 = .ok (.iload_n 1, 1) := by decide +kernel
theorem dJx4a65c_grow_92f84_22 : decode cJx4a65c_grow_92f84 22 = .ok (.iload_n 2, 1) := by decide +kernel
theorem dJx4a65c_grow_92f84_23 : decode cJx4a65c_grow_92f84 23 = .ok (.isub, 1) := by decide +kernel
theorem dJx4a65c_grow_92f84_24 : decode cJx4a65c_grow_92f84 24 = .ok (.iload_n 2, 1) := by decide +kernel
theorem dJx4a65c_grow_92f84_25 : decode cJx4a65c_grow_92f84 25 = .ok (.iconst 1, 1) := by decide +kernel
theorem dJx4a65c_grow_92f84_26 : decode cJx4a65c_grow_92f84 26 = .ok (.ishr, 1) := by decide +kernel
theorem dJx4a65c_grow_92f84_27 : decode cJx4a65c_grow_92f84 27 = .ok (.invokestatic 73, 3) := by decide +kernel
theorem dJx4a65c_grow_92f84_30 : decode cJx4a65c_grow_92f84 30 = .ok (.istore_n 3, 1) := by decide +kernel
theorem dJx4a65c_grow_92f84_31 : decode cJx4a65c_grow_92f84 31 = .ok (.aload_n 0, 1) := by decide +kernel
theorem dJx4a65c_grow_92f84_32 : decode cJx4a65c_grow_92f84 32 = .ok (.aload_n 0, 1) := by decide +kernel
theorem dJx4a65c_grow_92f84_33 : decode cJx4a65c_grow_92f84 33 = .ok (.getfield 9, 3) := by decide +kernel
theorem dJx4a65c_grow_92f84_36 : decode cJx4a65c_grow_92f84 36 = .ok (.iload_n 3, 1) := by decide +kernel
theorem dJx4a65c_grow_92f84_37 : decode cJx4a65c_grow_92f84 37 = .ok (.invokestatic 66, 3) := by decide +kernel
theorem dJx4a65c_grow_92f84_40 : decode cJx4a65c_grow_92f84 40 = .ok (.dup_x1, 1) := by decide +kernel
theorem dJx4a65c_grow_92f84_41 : decode cJx4a65c_grow_92f84 41 = .ok (.putfield 9, 3) := by decide +kernel
theorem dJx4a65c_grow_92f84_44 : decode cJx4a65c_grow_92f84 44 = .ok (.areturn, 1) := by decide +kernel
theorem dJx4a65c_grow_92f84_45 : decode cJx4a65c_grow_92f84 45 = .ok (.aload_n 0, 1) := by decide +kernel
theorem dJx4a65c_grow_92f84_46 : decode cJx4a65c_grow_92f84 46 = .ok (.bipush 10, 2) := by decide +kernel
theorem dJx4a65c_grow_92f84_48 : decode cJx4a65c_grow_92f84 48 = .ok (.iload_n 1, 1) := by decide +kernel
theorem dJx4a65c_grow_92f84_49 : decode cJx4a65c_grow_92f84 49 = .ok (.invokestatic 79, 3) := by decide +kernel
theorem dJx4a65c_grow_92f84_52 : decode cJx4a65c_grow_92f84 52 = .ok (.anewarray 7, 3) := by decide +kernel
theorem dJx4a65c_grow_92f84_55 : decode cJx4a65c_grow_92f84 55 = .ok (.dup_x1, 1) := by decide +kernel
theorem dJx4a65c_grow_92f84_56 : decode cJx4a65c_grow_92f84 56 = .ok (.putfield 9, 3) := by decide +kernel
theorem dJx4a65c_grow_92f84_59 : decode cJx4a65c_grow_92f84 59 = .ok (.areturn, 1) := by decide +kernel
theorem dJx4a65c_grow_d5877_0 : decode cJx4a65c_grow_d5877 0 = .ok (.aload_n 0, 1) := by decide +kernel
theorem dJx4a65c_grow_d5877_1 : decode cJx4a65c_grow_d5877 1 = .ok (.aload_n 0, 1) := by decide +kernel
theorem dJx4a65c_grow_d5877_2 : decode cJx4a65c_grow_d5877 2 = .ok (.getfield 48, 3) := by decide +kernel
theorem dJx4a65c_grow_d5877_5 : decode cJx4a65c_grow_d5877 5 = .ok (.iconst 1, 1) := by decide +kernel
theorem dJx4a65c_grow_d5877_6 : decode cJx4a65c_grow_d5877 6 = .ok (.iadd, 1) := by decide +kernel
theorem dJx4a65c_grow_d5877_7 : decode cJx4a65c_grow_d5877 7 = .ok (.invokevirtual 69, 3) := by decide +kernel
theorem dJx4a65c_grow_d5877_10 : decode cJx4a65c_grow_d5877 10 = .ok (.areturn, 1) := by decide +kernel
theorem dJx4a65c_size_8abf5_0 : decode cJx4a65c_size_8abf5 0 = .ok (.aload_n 0, 1) := by decide +kernel
theorem dJx4a65c_size_8abf5_1 : decode cJx4a65c_size_8abf5 1 = .ok (.getfield 48, 3) := by decide +kernel
theorem dJx4a65c_size_8abf5_4 : decode cJx4a65c_size_8abf5 4 = .ok (.ireturn, 1) := by decide +kernel
theorem dJx4a65c_elementData_915e3_0 : decode cJx4a65c_elementData_915e3 0 = .ok (.aload_n 0, 1) := by decide +kernel
theorem dJx4a65c_elementData_915e3_1 : decode cJx4a65c_elementData_915e3 1 = .ok (.getfield 9, 3) := by decide +kernel
theorem dJx4a65c_elementData_915e3_4 : decode cJx4a65c_elementData_915e3 4 = .ok (.iload_n 1, 1) := by decide +kernel
theorem dJx4a65c_elementData_915e3_5 : decode cJx4a65c_elementData_915e3 5 = .ok (.aaload, 1) := by decide +kernel
theorem dJx4a65c_elementData_915e3_6 : decode cJx4a65c_elementData_915e3 6 = .ok (.areturn, 1) := by decide +kernel
theorem dJx4a65c_get_915e3_0 : decode cJx4a65c_get_915e3 0 = .ok (.iload_n 1, 1) := by decide +kernel
theorem dJx4a65c_get_915e3_1 : decode cJx4a65c_get_915e3 1 = .ok (.aload_n 0, 1) := by decide +kernel
theorem dJx4a65c_get_915e3_2 : decode cJx4a65c_get_915e3 2 = .ok (.getfield 48, 3) := by decide +kernel
theorem dJx4a65c_get_915e3_5 : decode cJx4a65c_get_915e3 5 = .ok (.invokestatic 118, 3) := by decide +kernel
theorem dJx4a65c_get_915e3_8 : decode cJx4a65c_get_915e3 8 = .ok (.pop, 1) := by decide +kernel
theorem dJx4a65c_get_915e3_9 : decode cJx4a65c_get_915e3 9 = .ok (.aload_n 0, 1) := by decide +kernel
theorem dJx4a65c_get_915e3_10 : decode cJx4a65c_get_915e3 10 = .ok (.iload_n 1, 1) := by decide +kernel
theorem dJx4a65c_get_915e3_11 : decode cJx4a65c_get_915e3 11 = .ok (.invokevirtual 123, 3) := by decide +kernel
theorem dJx4a65c_get_915e3_14 : decode cJx4a65c_get_915e3 14 = .ok (.areturn, 1) := by decide +kernel
theorem dJx4a65c_add_72be8_0 : decode cJx4a65c_add_72be8 0 = .ok (.iload_n 3, 1) := by decide +kernel
theorem dJx4a65c_add_72be8_1 : decode cJx4a65c_add_72be8 1 = .ok (.aload_n 2, 1) := by decide +kernel
theorem dJx4a65c_add_72be8_2 : decode cJx4a65c_add_72be8 2 = .ok (.arraylength, 1) := by decide +kernel
theorem dJx4a65c_add_72be8_3 : decode cJx4a65c_add_72be8 3 = .ok (.if_icmp .ne 8, 3) := by decide +kernel
theorem dJx4a65c_add_72be8_6 : decode cJx4a65c_add_72be8 6 = .ok (.aload_n 0, 1) := by decide +kernel
theorem dJx4a65c_add_72be8_7 : decode cJx4a65c_add_72be8 7 = .ok (.invokevirtual 129, 3) := by decide +kernel
theorem dJx4a65c_add_72be8_10 : decode cJx4a65c_add_72be8 10 = .ok (.astore_n 2, 1) := by decide +kernel
theorem dJx4a65c_add_72be8_11 : decode cJx4a65c_add_72be8 11 = .ok (.aload_n 2, 1) := by decide +kernel
theorem dJx4a65c_add_72be8_12 : decode cJx4a65c_add_72be8 12 = .ok (.iload_n 3, 1) := by decide +kernel
theorem dJx4a65c_add_72be8_13 : decode cJx4a65c_add_72be8 13 = .ok (.aload_n 1, 1) := by decide +kernel
theorem dJx4a65c_add_72be8_14 : decode cJx4a65c_add_72be8 14 = .ok (.aastore, 1) := by decide +kernel
theorem dJx4a65c_add_72be8_15 : decode cJx4a65c_add_72be8 15 = .ok (.aload_n 0, 1) := by decide +kernel
theorem dJx4a65c_add_72be8_16 : decode cJx4a65c_add_72be8 16 = .ok (.iload_n 3, 1) := by decide +kernel
theorem dJx4a65c_add_72be8_17 : decode cJx4a65c_add_72be8 17 = .ok (.iconst 1, 1) := by decide +kernel
theorem dJx4a65c_add_72be8_18 : decode cJx4a65c_add_72be8 18 = .ok (.iadd, 1) := by decide +kernel
theorem dJx4a65c_add_72be8_19 : decode cJx4a65c_add_72be8 19 = .ok (.putfield 48, 3) := by decide +kernel
theorem dJx4a65c_add_72be8_22 : decode cJx4a65c_add_72be8 22 = .ok (.return_, 1) := by decide +kernel
theorem dJx4a65c_add_9ea2d_0 : decode cJx4a65c_add_9ea2d 0 = .ok (.aload_n 0, 1) := by decide +kernel
theorem dJx4a65c_add_9ea2d_1 : decode cJx4a65c_add_9ea2d 1 = .ok (.dup, 1) := by decide +kernel
theorem dJx4a65c_add_9ea2d_2 : decode cJx4a65c_add_9ea2d 2 = .ok (.getfield 63, 3) := by decide +kernel
theorem dJx4a65c_add_9ea2d_5 : decode cJx4a65c_add_9ea2d 5 = .ok (.iconst 1, 1) := by decide +kernel
theorem dJx4a65c_add_9ea2d_6 : decode cJx4a65c_add_9ea2d 6 = .ok (.iadd, 1) := by decide +kernel
theorem dJx4a65c_add_9ea2d_7 : decode cJx4a65c_add_9ea2d 7 = .ok (.putfield 63, 3) := by decide +kernel
theorem dJx4a65c_add_9ea2d_10 : decode cJx4a65c_add_9ea2d 10 = .ok (.aload_n 0, 1) := by decide +kernel
theorem dJx4a65c_add_9ea2d_11 : decode cJx4a65c_add_9ea2d 11 = .ok (.aload_n 1, 1) := by decide +kernel
theorem dJx4a65c_add_9ea2d_12 : decode cJx4a65c_add_9ea2d 12 = .ok (.aload_n 0, 1) := by decide +kernel
theorem dJx4a65c_add_9ea2d_13 : decode cJx4a65c_add_9ea2d 13 = .ok (.getfield 9, 3) := by decide +kernel
theorem dJx4a65c_add_9ea2d_16 : decode cJx4a65c_add_9ea2d 16 = .ok (.aload_n 0, 1) := by decide +kernel
theorem dJx4a65c_add_9ea2d_17 : decode cJx4a65c_add_9ea2d 17 = .ok (.getfield 48, 3) := by decide +kernel
theorem dJx4a65c_add_9ea2d_20 : decode cJx4a65c_add_9ea2d 20 = .ok (.invokevirtual 131, 3) := by decide +kernel
theorem dJx4a65c_add_9ea2d_23 : decode cJx4a65c_add_9ea2d 23 = .ok (.iconst 1, 1) := by decide +kernel
theorem dJx4a65c_add_9ea2d_24 : decode cJx4a65c_add_9ea2d 24 = .ok (.ireturn, 1) := by decide +kernel
theorem dJx4a65c_remove_915e3_0 : decode cJx4a65c_remove_915e3 0 = .ok (.iload_n 1, 1) := by decide +kernel
theorem dJx4a65c_remove_915e3_1 : decode cJx4a65c_remove_915e3 1 = .ok (.aload_n 0, 1) := by decide +kernel
theorem dJx4a65c_remove_915e3_2 : decode cJx4a65c_remove_915e3 2 = .ok (.getfield 48, 3) := by decide +kernel
theorem dJx4a65c_remove_915e3_5 : decode cJx4a65c_remove_915e3 5 = .ok (.invokestatic 118, 3) := by decide +kernel
theorem dJx4a65c_remove_915e3_8 : decode cJx4a65c_remove_915e3 8 = .ok (.pop, 1) := by decide +kernel
theorem dJx4a65c_remove_915e3_9 : decode cJx4a65c_remove_915e3 9 = .ok (.aload_n 0, 1) := by decide +kernel
theorem dJx4a65c_remove_915e3_10 : decode cJx4a65c_remove_915e3 10 = .ok (.getfield 9, 3) := by decide +kernel
theorem dJx4a65c_remove_915e3_13 : decode cJx4a65c_remove_915e3 13 = .ok (.astore_n 2, 1) := by decide +kernel
theorem dJx4a65c_remove_915e3_14 : decode cJx4a65c_remove_915e3 14 = .ok (.aload_n 2, 1) := by decide +kernel
theorem dJx4a65c_remove_915e3_15 : decode cJx4a65c_remove_915e3 15 = .ok (.iload_n 1, 1) := by decide +kernel
theorem dJx4a65c_remove_915e3_16 : decode cJx4a65c_remove_915e3 16 = .ok (.aaload, 1) := by decide +kernel
theorem dJx4a65c_remove_915e3_17 : decode cJx4a65c_remove_915e3 17 = .ok (.astore_n 3, 1) := by decide +kernel
theorem dJx4a65c_remove_915e3_18 : decode cJx4a65c_remove_915e3 18 = .ok (.aload_n 0, 1) := by decide +kernel
theorem dJx4a65c_remove_915e3_19 : decode cJx4a65c_remove_915e3 19 = .ok (.aload_n 2, 1) := by decide +kernel
theorem dJx4a65c_remove_915e3_20 : decode cJx4a65c_remove_915e3 20 = .ok (.iload_n 1, 1) := by decide +kernel
theorem dJx4a65c_remove_915e3_21 : decode cJx4a65c_remove_915e3 21 = .ok (.invokevirtual 144, 3) := by decide +kernel
theorem dJx4a65c_remove_915e3_24 : decode cJx4a65c_remove_915e3 24 = .ok (.aload_n 3, 1) := by decide +kernel
theorem dJx4a65c_remove_915e3_25 : decode cJx4a65c_remove_915e3 25 = .ok (.areturn, 1) := by decide +kernel
theorem dJx4a65c_fastRemove_b59b0_0 : decode cJx4a65c_fastRemove_b59b0 0 = .ok (.aload_n 0, 1) := by decide +kernel
theorem dJx4a65c_fastRemove_b59b0_1 : decode cJx4a65c_fastRemove_b59b0 1 = .ok (.dup, 1) := by decide +kernel
theorem dJx4a65c_fastRemove_b59b0_2 : decode cJx4a65c_fastRemove_b59b0 2 = .ok (.getfield 63, 3) := by decide +kernel
theorem dJx4a65c_fastRemove_b59b0_5 : decode cJx4a65c_fastRemove_b59b0 5 = .ok (.iconst 1, 1) := by decide +kernel
theorem dJx4a65c_fastRemove_b59b0_6 : decode cJx4a65c_fastRemove_b59b0 6 = .ok (.iadd, 1) := by decide +kernel
theorem dJx4a65c_fastRemove_b59b0_7 : decode cJx4a65c_fastRemove_b59b0 7 = .ok (.putfield 63, 3) := by decide +kernel
theorem dJx4a65c_fastRemove_b59b0_10 : decode cJx4a65c_fastRemove_b59b0 10 = .ok (.aload_n 0, 1) := by decide +kernel
theorem dJx4a65c_fastRemove_b59b0_11 : decode cJx4a65c_fastRemove_b59b0 11 = .ok (.getfield 48, 3) := by decide +kernel
theorem dJx4a65c_fastRemove_b59b0_14 : decode cJx4a65c_fastRemove_b59b0 14 = .ok (.iconst 1, 1) := by decide +kernel
theorem dJx4a65c_fastRemove_b59b0_15 : decode cJx4a65c_fastRemove_b59b0 15 = .ok (.isub, 1) := by decide +kernel
theorem dJx4a65c_fastRemove_b59b0_16 : decode cJx4a65c_fastRemove_b59b0 16 = .ok (.dup, 1) := by decide +kernel
theorem dJx4a65c_fastRemove_b59b0_17 : decode cJx4a65c_fastRemove_b59b0 17 = .ok (.istore_n 3, 1) := by decide +kernel
theorem dJx4a65c_fastRemove_b59b0_18 : decode cJx4a65c_fastRemove_b59b0 18 = .ok (.iload_n 2, 1) := by decide +kernel
theorem dJx4a65c_fastRemove_b59b0_19 : decode cJx4a65c_fastRemove_b59b0 19 = .ok (.if_icmp .le 15, 3) := by decide +kernel
theorem dJx4a65c_fastRemove_b59b0_22 : decode cJx4a65c_fastRemove_b59b0 22 = .ok (.aload_n 1, 1) := by decide +kernel
theorem dJx4a65c_fastRemove_b59b0_23 : decode cJx4a65c_fastRemove_b59b0 23 = .ok (.iload_n 2, 1) := by decide +kernel
theorem dJx4a65c_fastRemove_b59b0_24 : decode cJx4a65c_fastRemove_b59b0 24 = .ok (.iconst 1, 1) := by decide +kernel
theorem dJx4a65c_fastRemove_b59b0_25 : decode cJx4a65c_fastRemove_b59b0 25 = .ok (.iadd, 1) := by decide +kernel
theorem dJx4a65c_fastRemove_b59b0_26 : decode cJx4a65c_fastRemove_b59b0 26 = .ok (.aload_n 1, 1) := by decide +kernel
theorem dJx4a65c_fastRemove_b59b0_27 : decode cJx4a65c_fastRemove_b59b0 27 = .ok (.iload_n 2, 1) := by decide +kernel
theorem dJx4a65c_fastRemove_b59b0_28 : decode cJx4a65c_fastRemove_b59b0 28 = .ok (.iload_n 3, 1) := by decide +kernel
theorem dJx4a65c_fastRemove_b59b0_29 : decode cJx4a65c_fastRemove_b59b0 29 = .ok (.iload_n 2, 1) := by decide +kernel
theorem dJx4a65c_fastRemove_b59b0_30 : decode cJx4a65c_fastRemove_b59b0 30 = .ok (.isub, 1) := by decide +kernel
theorem dJx4a65c_fastRemove_b59b0_31 : decode cJx4a65c_fastRemove_b59b0 31 = .ok (.invokestatic 112, 3) := by decide +kernel
theorem dJx4a65c_fastRemove_b59b0_34 : decode cJx4a65c_fastRemove_b59b0 34 = .ok (.aload_n 1, 1) := by decide +kernel
theorem dJx4a65c_fastRemove_b59b0_35 : decode cJx4a65c_fastRemove_b59b0 35 = .ok (.aload_n 0, 1) := by decide +kernel
theorem dJx4a65c_fastRemove_b59b0_36 : decode cJx4a65c_fastRemove_b59b0 36 = .ok (.iload_n 3, 1) := by decide +kernel
theorem dJx4a65c_fastRemove_b59b0_37 : decode cJx4a65c_fastRemove_b59b0 37 = .ok (.dup_x1, 1) := by decide +kernel
theorem dJx4a65c_fastRemove_b59b0_38 : decode cJx4a65c_fastRemove_b59b0 38 = .ok (.putfield 48, 3) := by decide +kernel
theorem dJx4a65c_fastRemove_b59b0_41 : decode cJx4a65c_fastRemove_b59b0 41 = .ok (.aconst_null, 1) := by decide +kernel
theorem dJx4a65c_fastRemove_b59b0_42 : decode cJx4a65c_fastRemove_b59b0 42 = .ok (.aastore, 1) := by decide +kernel
theorem dJx4a65c_fastRemove_b59b0_43 : decode cJx4a65c_fastRemove_b59b0 43 = .ok (.return_, 1) := by decide +kernel
theorem dJx4a65c_clear_da8c8_0 : decode cJx4a65c_clear_da8c8 0 = .ok (.aload_n 0, 1) := by decide +kernel
theorem dJx4a65c_clear_da8c8_1 : decode cJx4a65c_clear_da8c8 1 = .ok (.dup, 1) := by decide +kernel
theorem dJx4a65c_clear_da8c8_2 : decode cJx4a65c_clear_da8c8 2 = .ok (.getfield 63, 3) := by decide +kernel
theorem dJx4a65c_clear_da8c8_5 : decode cJx4a65c_clear_da8c8 5 = .ok (.iconst 1, 1) := by decide +kernel
theorem dJx4a65c_clear_da8c8_6 : decode cJx4a65c_clear_da8c8 6 = .ok (.iadd, 1) := by decide +kernel
theorem dJx4a65c_clear_da8c8_7 : decode cJx4a65c_clear_da8c8 7 = .ok (.putfield 63, 3) := by decide +kernel
theorem dJx4a65c_clear_da8c8_10 : decode cJx4a65c_clear_da8c8 10 = .ok (.aload_n 0, 1) := by decide +kernel
theorem dJx4a65c_clear_da8c8_11 : decode cJx4a65c_clear_da8c8 11 = .ok (.getfield 9, 3) := by decide +kernel
theorem dJx4a65c_clear_da8c8_14 : decode cJx4a65c_clear_da8c8 14 = .ok (.astore_n 1, 1) := by decide +kernel
theorem dJx4a65c_clear_da8c8_15 : decode cJx4a65c_clear_da8c8 15 = .ok (.aload_n 0, 1) := by decide +kernel
theorem dJx4a65c_clear_da8c8_16 : decode cJx4a65c_clear_da8c8 16 = .ok (.getfield 48, 3) := by decide +kernel
theorem dJx4a65c_clear_da8c8_19 : decode cJx4a65c_clear_da8c8 19 = .ok (.istore_n 2, 1) := by decide +kernel
theorem dJx4a65c_clear_da8c8_20 : decode cJx4a65c_clear_da8c8 20 = .ok (.aload_n 0, 1) := by decide +kernel
theorem dJx4a65c_clear_da8c8_21 : decode cJx4a65c_clear_da8c8 21 = .ok (.iconst 0, 1) := by decide +kernel
theorem dJx4a65c_clear_da8c8_22 : decode cJx4a65c_clear_da8c8 22 = .ok (.dup_x1, 1) := by decide +kernel
theorem dJx4a65c_clear_da8c8_23 : decode cJx4a65c_clear_da8c8 23 = .ok (.putfield 48, 3) := by decide +kernel
theorem dJx4a65c_clear_da8c8_26 : decode cJx4a65c_clear_da8c8 26 = .ok (.istore_n 3, 1) := by decide +kernel
theorem dJx4a65c_clear_da8c8_27 : decode cJx4a65c_clear_da8c8 27 = .ok (.iload_n 3, 1) := by decide +kernel
theorem dJx4a65c_clear_da8c8_28 : decode cJx4a65c_clear_da8c8 28 = .ok (.iload_n 2, 1) := by decide +kernel
theorem dJx4a65c_clear_da8c8_29 : decode cJx4a65c_clear_da8c8 29 = .ok (.if_icmp .ge 13, 3) := by decide +kernel
theorem dJx4a65c_clear_da8c8_32 : decode cJx4a65c_clear_da8c8 32 = .ok (.aload_n 1, 1) := by decide +kernel
theorem dJx4a65c_clear_da8c8_33 : decode cJx4a65c_clear_da8c8 33 = .ok (.iload_n 3, 1) := by decide +kernel
theorem dJx4a65c_clear_da8c8_34 : decode cJx4a65c_clear_da8c8 34 = .ok (.aconst_null, 1) := by decide +kernel
theorem dJx4a65c_clear_da8c8_35 : decode cJx4a65c_clear_da8c8 35 = .ok (.aastore, 1) := by decide +kernel
theorem dJx4a65c_clear_da8c8_36 : decode cJx4a65c_clear_da8c8 36 = .ok (.iinc 3 1, 3) := by decide +kernel
theorem dJx4a65c_clear_da8c8_39 : decode cJx4a65c_clear_da8c8 39 = .ok (.goto (-12), 3) := by decide +kernel
theorem dJx4a65c_clear_da8c8_42 : decode cJx4a65c_clear_da8c8 42 = .ok (.return_, 1) := by decide +kernel
theorem dJ7_copyOf_1904c_0 : decode cJ7_copyOf_1904c 0 = .ok (.aload_n 0, 1) := by decide +kernel
theorem dJ7_copyOf_1904c_1 : decode cJ7_copyOf_1904c 1 = .ok (.iload_n 1, 1) := by decide +kernel
theorem dJ7_copyOf_1904c_2 : decode cJ7_copyOf_1904c 2 = .ok (.aload_n 0, 1) := by decide +kernel
theorem dJ7_copyOf_1904c_3 : decode cJ7_copyOf_1904c 3 = .ok (.invokevirtual 86, 3) := by decide +kernel
theorem dJ7_copyOf_1904c_6 : decode cJ7_copyOf_1904c 6 = .ok (.invokestatic 300, 3) := by decide +kernel
theorem dJ7_copyOf_1904c_9 : decode cJ7_copyOf_1904c 9 = .ok (.areturn, 1) := by decide +kernel
theorem dJ7_copyOf_6403c_0 : decode cJ7_copyOf_6403c 0 = .ok (.aload_n 2, 1) := by decide +kernel
theorem dJ7_copyOf_6403c_1 : decode cJ7_copyOf_6403c 1 = .ok (.ldc 110, 2) := by decide +kernel
theorem dJ7_copyOf_6403c_3 : decode cJ7_copyOf_6403c 3 = .ok (.if_acmp .ne 10, 3) := by decide +kernel
theorem dJ7_copyOf_6403c_6 : decode cJ7_copyOf_6403c 6 = .ok (.iload_n 1, 1) := by decide +kernel
theorem dJ7_copyOf_6403c_7 : decode cJ7_copyOf_6403c 7 = .ok (.anewarray 2, 3) := by decide +kernel
theorem dJ7_copyOf_6403c_10 : decode cJ7_copyOf_6403c 10 = .ok (.goto 14, 3) := by decide +kernel
theorem dJ7_copyOf_6403c_13 : decode cJ7_copyOf_6403c 13 = .ok (.aload_n 2, 1) := by decide +kernel
theorem dJ7_copyOf_6403c_14 : decode cJ7_copyOf_6403c 14 = .ok (.invokevirtual 90, 3) := by decide +kernel
theorem dJ7_copyOf_6403c_17 : decode cJ7_copyOf_6403c 17 = .ok (.iload_n 1, 1) := by decide +kernel
theorem dJ7_copyOf_6403c_18 : decode cJ7_copyOf_6403c 18 = .ok (.invokestatic 95, 3) := by decide +kernel
theorem dJ7_copyOf_6403c_21 : decode cJ7_copyOf_6403c 21 = .ok (.checkcast 110, 3) := by decide +kernel
theorem dJ7_copyOf_6403c_24 : decode cJ7_copyOf_6403c 24 = .ok (.astore_n 3, 1) := by decide +kernel
theorem dJ7_copyOf_6403c_25 : decode cJ7_copyOf_6403c 25 = .ok (.aload_n 0, 1) := by decide +kernel
theorem dJ7_copyOf_6403c_26 : decode cJ7_copyOf_6403c 26 = .ok (.iconst 0, 1) := by decide +kernel
theorem dJ7_copyOf_6403c_27 : decode cJ7_copyOf_6403c 27 = .ok (.aload_n 3, 1) := by decide +kernel
theorem dJ7_copyOf_6403c_28 : decode cJ7_copyOf_6403c 28 = .ok (.iconst 0, 1) := by decide +kernel
theorem dJ7_copyOf_6403c_29 : decode cJ7_copyOf_6403c 29 = .ok (.aload_n 0, 1) := by decide +kernel
theorem dJ7_copyOf_6403c_30 : decode cJ7_copyOf_6403c 30 = .ok (.arraylength, 1) := by decide +kernel
theorem dJ7_copyOf_6403c_31 : decode cJ7_copyOf_6403c 31 = .ok (.iload_n 1, 1) := by decide +kernel
theorem dJ7_copyOf_6403c_32 : decode cJ7_copyOf_6403c 32 = .ok (.invokestatic 304, 3) := by decide +kernel
theorem dJ7_copyOf_6403c_35 : decode cJ7_copyOf_6403c 35 = .ok (.invokestatic 150, 3) := by decide +kernel
theorem dJ7_copyOf_6403c_38 : decode cJ7_copyOf_6403c 38 = .ok (.aload_n 3, 1) := by decide +kernel
theorem dJ7_copyOf_6403c_39 : decode cJ7_copyOf_6403c 39 = .ok (.areturn, 1) := by decide +kernel
theorem dJ15_checkIndex_7cf53_0 : decode cJ15_checkIndex_7cf53 0 = .ok (.iload_n 0, 1) := by decide +kernel
theorem dJ15_checkIndex_7cf53_1 : decode cJ15_checkIndex_7cf53 1 = .ok (.iload_n 1, 1) := by decide +kernel
theorem dJ15_checkIndex_7cf53_2 : decode cJ15_checkIndex_7cf53 2 = .ok (.aconst_null, 1) := by decide +kernel
theorem dJ15_checkIndex_7cf53_3 : decode cJ15_checkIndex_7cf53 3 = .ok (.invokestatic 105, 3) := by decide +kernel
theorem dJ15_checkIndex_7cf53_6 : decode cJ15_checkIndex_7cf53 6 = .ok (.ireturn, 1) := by decide +kernel
theorem dJ8_newLength_cabcc_0 : decode cJ8_newLength_cabcc 0 = .ok (.iload_n 0, 1) := by decide +kernel
theorem dJ8_newLength_cabcc_1 : decode cJ8_newLength_cabcc 1 = .ok (.iload_n 1, 1) := by decide +kernel
theorem dJ8_newLength_cabcc_2 : decode cJ8_newLength_cabcc 2 = .ok (.iload_n 2, 1) := by decide +kernel
theorem dJ8_newLength_cabcc_3 : decode cJ8_newLength_cabcc 3 = .ok (.invokestatic 194, 3) := by decide +kernel
theorem dJ8_newLength_cabcc_6 : decode cJ8_newLength_cabcc 6 = .ok (.iadd, 1) := by decide +kernel
theorem dJ8_newLength_cabcc_7 : decode cJ8_newLength_cabcc 7 = .ok (.istore_n 3, 1) := by decide +kernel
theorem dJ8_newLength_cabcc_8 : decode cJ8_newLength_cabcc 8 = .ok (.iconst 0, 1) := by decide +kernel
theorem dJ8_newLength_cabcc_9 : decode cJ8_newLength_cabcc 9 = .ok (.iload_n 3, 1) := by decide +kernel
theorem dJ8_newLength_cabcc_10 : decode cJ8_newLength_cabcc 10 = .ok (.if_icmp .ge 11, 3) := by decide +kernel
theorem dJ8_newLength_cabcc_13 : decode cJ8_newLength_cabcc 13 = .ok (.iload_n 3, 1) := by decide +kernel
theorem dJ8_newLength_cabcc_14 : decode cJ8_newLength_cabcc 14 = .ok (.ldc 200, 2) := by decide +kernel
theorem dJ8_newLength_cabcc_16 : decode cJ8_newLength_cabcc 16 = .ok (.if_icmp .gt 5, 3) := by decide +kernel
theorem dJ8_newLength_cabcc_19 : decode cJ8_newLength_cabcc 19 = .ok (.iload_n 3, 1) := by decide +kernel
theorem dJ8_newLength_cabcc_20 : decode cJ8_newLength_cabcc 20 = .ok (.ireturn, 1) := by decide +kernel
theorem dJ8_newLength_cabcc_21 : decode cJ8_newLength_cabcc 21 = .ok (.iload_n 0, 1) := by decide +kernel
theorem dJ8_newLength_cabcc_22 : decode cJ8_newLength_cabcc 22 = .ok (.iload_n 1, 1) := by decide +kernel
theorem dJ8_newLength_cabcc_23 : decode cJ8_newLength_cabcc 23 = .ok (.invokestatic 201, 3) := by decide +kernel
theorem dJ8_newLength_cabcc_26 : decode cJ8_newLength_cabcc 26 = .ok (.ireturn, 1) := by decide +kernel
theorem dJ8_hugeLength_7cf53_0 : decode cJ8_hugeLength_7cf53 0 = .ok (.iload_n 0, 1) := by decide +kernel
theorem dJ8_hugeLength_7cf53_1 : decode cJ8_hugeLength_7cf53 1 = .ok (.iload_n 1, 1) := by decide +kernel
theorem dJ8_hugeLength_7cf53_2 : decode cJ8_hugeLength_7cf53 2 = .ok (.iadd, 1) := by decide +kernel
theorem dJ8_hugeLength_7cf53_3 : decode cJ8_hugeLength_7cf53 3 = .ok (.istore_n 2, 1) := by decide +kernel
theorem dJ8_hugeLength_7cf53_4 : decode cJ8_hugeLength_7cf53 4 = .ok (.iload_n 2, 1) := by decide +kernel
theorem dJ8_hugeLength_7cf53_5 : decode cJ8_hugeLength_7cf53 5 = .ok (.ifCond .ge 44, 3) := by decide +kernel
theorem dJ8_hugeLength_7cf53_8 : decode cJ8_hugeLength_7cf53 8 = .ok (.new 204, 3) := by decide +kernel
theorem dJ8_hugeLength_7cf53_11 : decode cJ8_hugeLength_7cf53 11 = .ok (.dup, 1) := by decide +kernel
theorem dJ8_hugeLength_7cf53_12 : decode cJ8_hugeLength_7cf53 12 = .ok (.new 89, 3) := by decide +kernel
theorem dJ8_hugeLength_7cf53_15 : decode cJ8_hugeLength_7cf53 15 = .ok (.dup, 1) := by decide +kernel
theorem dJ8_hugeLength_7cf53_16 : decode cJ8_hugeLength_7cf53 16 = .ok (.invokespecial 91, 3) := by decide +kernel
theorem dJ8_hugeLength_7cf53_19 : decode cJ8_hugeLength_7cf53 19 = .ok (.ldc 206, 2) := by decide +kernel
theorem dJ8_hugeLength_7cf53_21 : decode cJ8_hugeLength_7cf53 21 = .ok (.invokevirtual 94, 3) := by decide +kernel
theorem dJ8_hugeLength_7cf53_24 : decode cJ8_hugeLength_7cf53 24 = .ok (.iload_n 0, 1) := by decide +kernel
theorem dJ8_hugeLength_7cf53_25 : decode cJ8_hugeLength_7cf53 25 = .ok (.invokevirtual 98, 3) := by decide +kernel
theorem dJ8_hugeLength_7cf53_28 : decode cJ8_hugeLength_7cf53 28 = .ok (.ldc 208, 2) := by decide +kernel
theorem dJ8_hugeLength_7cf53_30 : decode cJ8_hugeLength_7cf53 30 = .ok (.invokevirtual 94, 3) := by decide +kernel
theorem dJ8_hugeLength_7cf53_33 : decode cJ8_hugeLength_7cf53 33 = .ok (.iload_n 1, 1) := by decide +kernel
theorem dJ8_hugeLength_7cf53_34 : decode cJ8_hugeLength_7cf53 34 = .ok (.invokevirtual 98, 3) := by decide +kernel
theorem dJ8_hugeLength_7cf53_37 : decode cJ8_hugeLength_7cf53 37 = .ok (.ldc 210, 2) := by decide +kernel
theorem dJ8_hugeLength_7cf53_39 : decode cJ8_hugeLength_7cf53 39 = .ok (.invokevirtual 94, 3) := by decide +kernel
theorem dJ8_hugeLength_7cf53_42 : decode cJ8_hugeLength_7cf53 42 = .ok (.invokevirtual 101, 3) := by decide +kernel
theorem dJ8_hugeLength_7cf53_45 : decode cJ8_hugeLength_7cf53 45 = .ok (.invokespecial 212, 3) := by decide +kernel
theorem dJ8_hugeLength_7cf53_48 : decode cJ8_hugeLength_7cf53 48 = .ok (.athrow, 1) := by decide +kernel
theorem dJ8_hugeLength_7cf53_49 : decode cJ8_hugeLength_7cf53 49 = .ok (.iload_n 2, 1) := by decide +kernel
theorem dJ8_hugeLength_7cf53_50 : decode cJ8_hugeLength_7cf53 50 = .ok (.ldc 200, 2) := by decide +kernel
theorem dJ8_hugeLength_7cf53_52 : decode cJ8_hugeLength_7cf53 52 = .ok (.if_icmp .gt 6, 3) := by decide +kernel
theorem dJ8_hugeLength_7cf53_55 : decode cJ8_hugeLength_7cf53 55 = .ok (.ldc 200, 2) := by decide +kernel
theorem dJ8_hugeLength_7cf53_57 : decode cJ8_hugeLength_7cf53 57 = .ok (.ireturn, 1) := by decide +kernel
theorem dJ8_hugeLength_7cf53_58 : decode cJ8_hugeLength_7cf53 58 = .ok (.iload_n 2, 1) := by decide +kernel
theorem dJ8_hugeLength_7cf53_59 : decode cJ8_hugeLength_7cf53 59 = .ok (.ireturn, 1) := by decide +kernel
theorem dJ3_checkIndex_8e157_0 : decode cJ3_checkIndex_8e157 0 = .ok (.iload_n 0, 1) := by decide +kernel
theorem dJ3_checkIndex_8e157_1 : decode cJ3_checkIndex_8e157 1 = .ok (.ifCond .lt 8, 3) := by decide +kernel
theorem dJ3_checkIndex_8e157_4 : decode cJ3_checkIndex_8e157 4 = .ok (.iload_n 0, 1) := by decide +kernel
theorem dJ3_checkIndex_8e157_5 : decode cJ3_checkIndex_8e157 5 = .ok (.iload_n 1, 1) := by decide +kernel
theorem dJ3_checkIndex_8e157_6 : decode cJ3_checkIndex_8e157 6 = .ok (.if_icmp .lt 10, 3) := by decide +kernel
theorem dJ3_checkIndex_8e157_9 : decode cJ3_checkIndex_8e157 9 = .ok (.aload_n 2, 1) := by decide +kernel
theorem dJ3_checkIndex_8e157_10 : decode cJ3_checkIndex_8e157 10 = .ok (.iload_n 0, 1) := by decide +kernel
theorem dJ3_checkIndex_8e157_11 : decode cJ3_checkIndex_8e157 11 = .ok (.iload_n 1, 1) := by decide +kernel
theorem dJ3_checkIndex_8e157_12 : decode cJ3_checkIndex_8e157 12 = .ok (.invokestatic 95, 3) := by decide +kernel
theorem dJ3_checkIndex_8e157_15 : decode cJ3_checkIndex_8e157 15 = .ok (.athrow, 1) := by decide +kernel
theorem dJ3_checkIndex_8e157_16 : decode cJ3_checkIndex_8e157 16 = .ok (.iload_n 0, 1) := by decide +kernel
theorem dJ3_checkIndex_8e157_17 : decode cJ3_checkIndex_8e157 17 = .ok (.ireturn, 1) := by decide +kernel
theorem dL_addStep_0 : decode cL_addStep 0 = .ok (.aload 4, 2) := by decide +kernel
theorem dL_addStep_2 : decode cL_addStep 2 = .ok (.iconst 0, 1) := by decide +kernel
theorem dL_addStep_3 : decode cL_addStep 3 = .ok (.aload_n 0, 1) := by decide +kernel
theorem dL_addStep_4 : decode cL_addStep 4 = .ok (.iload_n 1, 1) := by decide +kernel
theorem dL_addStep_5 : decode cL_addStep 5 = .ok (.iload_n 2, 1) := by decide +kernel
theorem dL_addStep_6 : decode cL_addStep 6 = .ok (.iload_n 3, 1) := by decide +kernel
theorem dL_addStep_7 : decode cL_addStep 7 = .ok (.invokevirtual 7, 3) := by decide +kernel
theorem dL_addStep_10 : decode cL_addStep 10 = .ok (.i2l, 1) := by decide +kernel
theorem dL_addStep_11 : decode cL_addStep 11 = .ok (.lastore, 1) := by decide +kernel
theorem dL_addStep_12 : decode cL_addStep 12 = .ok (.goto 11, 3) := by decide +kernel
theorem dL_addStep_15 : decode cL_addStep 15 = .ok (.astore 5, 2) := by decide +kernel
theorem dL_addStep_17 : decode cL_addStep 17 = .ok (.iconst 1, 1) := by decide +kernel
theorem dL_addStep_18 : decode cL_addStep 18 = .ok (.ireturn, 1) := by decide +kernel
theorem dL_addStep_19 : decode cL_addStep 19 = .ok (.astore 5, 2) := by decide +kernel
theorem dL_addStep_21 : decode cL_addStep 21 = .ok (.iconst 2, 1) := by decide +kernel
theorem dL_addStep_22 : decode cL_addStep 22 = .ok (.ireturn, 1) := by decide +kernel
theorem dL_addStep_23 : decode cL_addStep 23 = .ok (.iconst 0, 1) := by decide +kernel
theorem dL_addStep_24 : decode cL_addStep 24 = .ok (.ireturn, 1) := by decide +kernel
theorem dL_open_0 : decode cL_open 0 = .ok (.aload_n 3, 1) := by decide +kernel
theorem dL_open_1 : decode cL_open 1 = .ok (.iconst 0, 1) := by decide +kernel
theorem dL_open_2 : decode cL_open 2 = .ok (.aload_n 0, 1) := by decide +kernel
theorem dL_open_3 : decode cL_open 3 = .ok (.iload_n 1, 1) := by decide +kernel
theorem dL_open_4 : decode cL_open 4 = .ok (.iload_n 2, 1) := by decide +kernel
theorem dL_open_5 : decode cL_open 5 = .ok (.invokevirtual 17, 3) := by decide +kernel
theorem dL_open_8 : decode cL_open 8 = .ok (.i2l, 1) := by decide +kernel
theorem dL_open_9 : decode cL_open 9 = .ok (.lastore, 1) := by decide +kernel
theorem dL_open_10 : decode cL_open 10 = .ok (.goto 15, 3) := by decide +kernel
theorem dL_open_13 : decode cL_open 13 = .ok (.astore 4, 2) := by decide +kernel
theorem dL_open_15 : decode cL_open 15 = .ok (.iconst 1, 1) := by decide +kernel
theorem dL_open_16 : decode cL_open 16 = .ok (.ireturn, 1) := by decide +kernel
theorem dL_open_17 : decode cL_open 17 = .ok (.astore 4, 2) := by decide +kernel
theorem dL_open_19 : decode cL_open 19 = .ok (.iconst 2, 1) := by decide +kernel
theorem dL_open_20 : decode cL_open 20 = .ok (.ireturn, 1) := by decide +kernel
theorem dL_open_21 : decode cL_open 21 = .ok (.astore 4, 2) := by decide +kernel
theorem dL_open_23 : decode cL_open 23 = .ok (.iconst 3, 1) := by decide +kernel
theorem dL_open_24 : decode cL_open 24 = .ok (.ireturn, 1) := by decide +kernel
theorem dL_open_25 : decode cL_open 25 = .ok (.iconst 0, 1) := by decide +kernel
theorem dL_open_26 : decode cL_open 26 = .ok (.ireturn, 1) := by decide +kernel
theorem dL_addWord_0 : decode cL_addWord 0 = .ok (.aload_n 2, 1) := by decide +kernel
theorem dL_addWord_1 : decode cL_addWord 1 = .ok (.iconst 0, 1) := by decide +kernel
theorem dL_addWord_2 : decode cL_addWord 2 = .ok (.aload_n 0, 1) := by decide +kernel
theorem dL_addWord_3 : decode cL_addWord 3 = .ok (.iload_n 1, 1) := by decide +kernel
theorem dL_addWord_4 : decode cL_addWord 4 = .ok (.invokevirtual 23, 3) := by decide +kernel
theorem dL_addWord_7 : decode cL_addWord 7 = .ok (.i2l, 1) := by decide +kernel
theorem dL_addWord_8 : decode cL_addWord 8 = .ok (.lastore, 1) := by decide +kernel
theorem dL_addWord_9 : decode cL_addWord 9 = .ok (.goto 9, 3) := by decide +kernel
theorem dL_addWord_12 : decode cL_addWord 12 = .ok (.astore_n 3, 1) := by decide +kernel
theorem dL_addWord_13 : decode cL_addWord 13 = .ok (.iconst 1, 1) := by decide +kernel
theorem dL_addWord_14 : decode cL_addWord 14 = .ok (.ireturn, 1) := by decide +kernel
theorem dL_addWord_15 : decode cL_addWord 15 = .ok (.astore_n 3, 1) := by decide +kernel
theorem dL_addWord_16 : decode cL_addWord 16 = .ok (.iconst 2, 1) := by decide +kernel
theorem dL_addWord_17 : decode cL_addWord 17 = .ok (.ireturn, 1) := by decide +kernel
theorem dL_addWord_18 : decode cL_addWord 18 = .ok (.iconst 0, 1) := by decide +kernel
theorem dL_addWord_19 : decode cL_addWord 19 = .ok (.ireturn, 1) := by decide +kernel
theorem dL_close_0 : decode cL_close 0 = .ok (.aload_n 1, 1) := by decide +kernel
theorem dL_close_1 : decode cL_close 1 = .ok (.iconst 0, 1) := by decide +kernel
theorem dL_close_2 : decode cL_close 2 = .ok (.aload_n 0, 1) := by decide +kernel
theorem dL_close_3 : decode cL_close 3 = .ok (.invokevirtual 27, 3) := by decide +kernel
theorem dL_close_6 : decode cL_close 6 = .ok (.i2l, 1) := by decide +kernel
theorem dL_close_7 : decode cL_close 7 = .ok (.lastore, 1) := by decide +kernel
theorem dL_close_8 : decode cL_close 8 = .ok (.goto 6, 3) := by decide +kernel
theorem dL_close_11 : decode cL_close 11 = .ok (.astore_n 2, 1) := by decide +kernel
theorem dL_close_12 : decode cL_close 12 = .ok (.iconst 1, 1) := by decide +kernel
theorem dL_close_13 : decode cL_close 13 = .ok (.ireturn, 1) := by decide +kernel
theorem dL_close_14 : decode cL_close 14 = .ok (.iconst 0, 1) := by decide +kernel
theorem dL_close_15 : decode cL_close 15 = .ok (.ireturn, 1) := by decide +kernel
theorem dL_remove_0 : decode cL_remove 0 = .ok (.aload_n 2, 1) := by decide +kernel
theorem dL_remove_1 : decode cL_remove 1 = .ok (.iconst 0, 1) := by decide +kernel
theorem dL_remove_2 : decode cL_remove 2 = .ok (.aload_n 0, 1) := by decide +kernel
theorem dL_remove_3 : decode cL_remove 3 = .ok (.iload_n 1, 1) := by decide +kernel
theorem dL_remove_4 : decode cL_remove 4 = .ok (.invokevirtual 31, 3) := by decide +kernel
theorem dL_remove_7 : decode cL_remove 7 = .ok (.i2l, 1) := by decide +kernel
theorem dL_remove_8 : decode cL_remove 8 = .ok (.lastore, 1) := by decide +kernel
theorem dL_remove_9 : decode cL_remove 9 = .ok (.goto 9, 3) := by decide +kernel
theorem dL_remove_12 : decode cL_remove 12 = .ok (.astore_n 3, 1) := by decide +kernel
theorem dL_remove_13 : decode cL_remove 13 = .ok (.iconst 1, 1) := by decide +kernel
theorem dL_remove_14 : decode cL_remove 14 = .ok (.ireturn, 1) := by decide +kernel
theorem dL_remove_15 : decode cL_remove 15 = .ok (.astore_n 3, 1) := by decide +kernel
theorem dL_remove_16 : decode cL_remove 16 = .ok (.iconst 2, 1) := by decide +kernel
theorem dL_remove_17 : decode cL_remove 17 = .ok (.ireturn, 1) := by decide +kernel
theorem dL_remove_18 : decode cL_remove 18 = .ok (.iconst 0, 1) := by decide +kernel
theorem dL_remove_19 : decode cL_remove 19 = .ok (.ireturn, 1) := by decide +kernel
theorem dL_state_0 : decode cL_state 0 = .ok (.aload_n 2, 1) := by decide +kernel
theorem dL_state_1 : decode cL_state 1 = .ok (.iconst 0, 1) := by decide +kernel
theorem dL_state_2 : decode cL_state 2 = .ok (.aload_n 0, 1) := by decide +kernel
theorem dL_state_3 : decode cL_state 3 = .ok (.iload_n 1, 1) := by decide +kernel
theorem dL_state_4 : decode cL_state 4 = .ok (.invokevirtual 35, 3) := by decide +kernel
theorem dL_state_7 : decode cL_state 7 = .ok (.i2l, 1) := by decide +kernel
theorem dL_state_8 : decode cL_state 8 = .ok (.lastore, 1) := by decide +kernel
theorem dL_state_9 : decode cL_state 9 = .ok (.goto 6, 3) := by decide +kernel
theorem dL_state_12 : decode cL_state 12 = .ok (.astore_n 3, 1) := by decide +kernel
theorem dL_state_13 : decode cL_state 13 = .ok (.iconst 1, 1) := by decide +kernel
theorem dL_state_14 : decode cL_state 14 = .ok (.ireturn, 1) := by decide +kernel
theorem dL_state_15 : decode cL_state 15 = .ok (.iconst 0, 1) := by decide +kernel
theorem dL_state_16 : decode cL_state 16 = .ok (.ireturn, 1) := by decide +kernel
theorem dL_length_0 : decode cL_length 0 = .ok (.aload_n 2, 1) := by decide +kernel
theorem dL_length_1 : decode cL_length 1 = .ok (.iconst 0, 1) := by decide +kernel
theorem dL_length_2 : decode cL_length 2 = .ok (.aload_n 0, 1) := by decide +kernel
theorem dL_length_3 : decode cL_length 3 = .ok (.iload_n 1, 1) := by decide +kernel
theorem dL_length_4 : decode cL_length 4 = .ok (.invokevirtual 38, 3) := by decide +kernel
theorem dL_length_7 : decode cL_length 7 = .ok (.i2l, 1) := by decide +kernel
theorem dL_length_8 : decode cL_length 8 = .ok (.lastore, 1) := by decide +kernel
theorem dL_length_9 : decode cL_length 9 = .ok (.goto 6, 3) := by decide +kernel
theorem dL_length_12 : decode cL_length 12 = .ok (.astore_n 3, 1) := by decide +kernel
theorem dL_length_13 : decode cL_length 13 = .ok (.iconst 1, 1) := by decide +kernel
theorem dL_length_14 : decode cL_length 14 = .ok (.ireturn, 1) := by decide +kernel
theorem dL_length_15 : decode cL_length 15 = .ok (.iconst 0, 1) := by decide +kernel
theorem dL_length_16 : decode cL_length 16 = .ok (.ireturn, 1) := by decide +kernel
theorem dL_standing_0 : decode cL_standing 0 = .ok (.aload 4, 2) := by decide +kernel
theorem dL_standing_2 : decode cL_standing 2 = .ok (.iconst 0, 1) := by decide +kernel
theorem dL_standing_3 : decode cL_standing 3 = .ok (.aload_n 0, 1) := by decide +kernel
theorem dL_standing_4 : decode cL_standing 4 = .ok (.iload_n 1, 1) := by decide +kernel
theorem dL_standing_5 : decode cL_standing 5 = .ok (.iload_n 2, 1) := by decide +kernel
theorem dL_standing_6 : decode cL_standing 6 = .ok (.iload_n 3, 1) := by decide +kernel
theorem dL_standing_7 : decode cL_standing 7 = .ok (.invokevirtual 41, 3) := by decide +kernel
theorem dL_standing_10 : decode cL_standing 10 = .ok (.i2l, 1) := by decide +kernel
theorem dL_standing_11 : decode cL_standing 11 = .ok (.lastore, 1) := by decide +kernel
theorem dL_standing_12 : decode cL_standing 12 = .ok (.goto 7, 3) := by decide +kernel
theorem dL_standing_15 : decode cL_standing 15 = .ok (.astore 5, 2) := by decide +kernel
theorem dL_standing_17 : decode cL_standing 17 = .ok (.iconst 1, 1) := by decide +kernel
theorem dL_standing_18 : decode cL_standing 18 = .ok (.ireturn, 1) := by decide +kernel
theorem dL_standing_19 : decode cL_standing 19 = .ok (.iconst 0, 1) := by decide +kernel
theorem dL_standing_20 : decode cL_standing 20 = .ok (.ireturn, 1) := by decide +kernel
theorem dL_size_0 : decode cL_size 0 = .ok (.aload_n 2, 1) := by decide +kernel
theorem dL_size_1 : decode cL_size 1 = .ok (.iconst 0, 1) := by decide +kernel
theorem dL_size_2 : decode cL_size 2 = .ok (.aload_n 0, 1) := by decide +kernel
theorem dL_size_3 : decode cL_size 3 = .ok (.iload_n 1, 1) := by decide +kernel
theorem dL_size_4 : decode cL_size 4 = .ok (.invokevirtual 45, 3) := by decide +kernel
theorem dL_size_7 : decode cL_size 7 = .ok (.i2l, 1) := by decide +kernel
theorem dL_size_8 : decode cL_size 8 = .ok (.lastore, 1) := by decide +kernel
theorem dL_size_9 : decode cL_size 9 = .ok (.goto 6, 3) := by decide +kernel
theorem dL_size_12 : decode cL_size 12 = .ok (.astore_n 3, 1) := by decide +kernel
theorem dL_size_13 : decode cL_size 13 = .ok (.iconst 1, 1) := by decide +kernel
theorem dL_size_14 : decode cL_size 14 = .ok (.ireturn, 1) := by decide +kernel
theorem dL_size_15 : decode cL_size 15 = .ok (.iconst 0, 1) := by decide +kernel
theorem dL_size_16 : decode cL_size 16 = .ok (.ireturn, 1) := by decide +kernel
theorem dL_merge_0 : decode cL_merge 0 = .ok (.aload_n 2, 1) := by decide +kernel
theorem dL_merge_1 : decode cL_merge 1 = .ok (.iconst 0, 1) := by decide +kernel
theorem dL_merge_2 : decode cL_merge 2 = .ok (.aload_n 0, 1) := by decide +kernel
theorem dL_merge_3 : decode cL_merge 3 = .ok (.iload_n 1, 1) := by decide +kernel
theorem dL_merge_4 : decode cL_merge 4 = .ok (.invokevirtual 48, 3) := by decide +kernel
theorem dL_merge_7 : decode cL_merge 7 = .ok (.i2l, 1) := by decide +kernel
theorem dL_merge_8 : decode cL_merge 8 = .ok (.lastore, 1) := by decide +kernel
theorem dL_merge_9 : decode cL_merge 9 = .ok (.goto 6, 3) := by decide +kernel
theorem dL_merge_12 : decode cL_merge 12 = .ok (.astore_n 3, 1) := by decide +kernel
theorem dL_merge_13 : decode cL_merge 13 = .ok (.iconst 1, 1) := by decide +kernel
theorem dL_merge_14 : decode cL_merge 14 = .ok (.ireturn, 1) := by decide +kernel
theorem dL_merge_15 : decode cL_merge 15 = .ok (.iconst 0, 1) := by decide +kernel
theorem dL_merge_16 : decode cL_merge 16 = .ok (.ireturn, 1) := by decide +kernel
theorem dL_follow_0 : decode cL_follow 0 = .ok (.aload_n 1, 1) := by decide +kernel
theorem dL_follow_1 : decode cL_follow 1 = .ok (.iconst 0, 1) := by decide +kernel
theorem dL_follow_2 : decode cL_follow 2 = .ok (.aload_n 0, 1) := by decide +kernel
theorem dL_follow_3 : decode cL_follow 3 = .ok (.invokevirtual 51, 3) := by decide +kernel
theorem dL_follow_6 : decode cL_follow 6 = .ok (.i2l, 1) := by decide +kernel
theorem dL_follow_7 : decode cL_follow 7 = .ok (.lastore, 1) := by decide +kernel
theorem dL_follow_8 : decode cL_follow 8 = .ok (.goto 6, 3) := by decide +kernel
theorem dL_follow_11 : decode cL_follow 11 = .ok (.astore_n 2, 1) := by decide +kernel
theorem dL_follow_12 : decode cL_follow 12 = .ok (.iconst 1, 1) := by decide +kernel
theorem dL_follow_13 : decode cL_follow 13 = .ok (.ireturn, 1) := by decide +kernel
theorem dL_follow_14 : decode cL_follow 14 = .ok (.iconst 0, 1) := by decide +kernel
theorem dL_follow_15 : decode cL_follow 15 = .ok (.ireturn, 1) := by decide +kernel
theorem dL_isOnReplica_0 : decode cL_isOnReplica 0 = .ok (.aload_n 2, 1) := by decide +kernel
theorem dL_isOnReplica_1 : decode cL_isOnReplica 1 = .ok (.iconst 0, 1) := by decide +kernel
theorem dL_isOnReplica_2 : decode cL_isOnReplica 2 = .ok (.aload_n 0, 1) := by decide +kernel
theorem dL_isOnReplica_3 : decode cL_isOnReplica 3 = .ok (.iload_n 1, 1) := by decide +kernel
theorem dL_isOnReplica_4 : decode cL_isOnReplica 4 = .ok (.invokevirtual 54, 3) := by decide +kernel
theorem dL_isOnReplica_7 : decode cL_isOnReplica 7 = .ok (.ifCond .eq 7, 3) := by decide +kernel
theorem dL_isOnReplica_10 : decode cL_isOnReplica 10 = .ok (.lconst 1, 1) := by decide +kernel
theorem dL_isOnReplica_11 : decode cL_isOnReplica 11 = .ok (.goto 4, 3) := by decide +kernel
theorem dL_isOnReplica_14 : decode cL_isOnReplica 14 = .ok (.lconst 0, 1) := by decide +kernel
theorem dL_isOnReplica_15 : decode cL_isOnReplica 15 = .ok (.lastore, 1) := by decide +kernel
theorem dL_isOnReplica_16 : decode cL_isOnReplica 16 = .ok (.goto 6, 3) := by decide +kernel
theorem dL_isOnReplica_19 : decode cL_isOnReplica 19 = .ok (.astore_n 3, 1) := by decide +kernel
theorem dL_isOnReplica_20 : decode cL_isOnReplica 20 = .ok (.iconst 1, 1) := by decide +kernel
theorem dL_isOnReplica_21 : decode cL_isOnReplica 21 = .ok (.ireturn, 1) := by decide +kernel
theorem dL_isOnReplica_22 : decode cL_isOnReplica 22 = .ok (.iconst 0, 1) := by decide +kernel
theorem dL_isOnReplica_23 : decode cL_isOnReplica 23 = .ok (.ireturn, 1) := by decide +kernel
theorem dL_openView_0 : decode cL_openView 0 = .ok (.aload_n 1, 1) := by decide +kernel
theorem dL_openView_1 : decode cL_openView 1 = .ok (.iconst 0, 1) := by decide +kernel
theorem dL_openView_2 : decode cL_openView 2 = .ok (.aload_n 0, 1) := by decide +kernel
theorem dL_openView_3 : decode cL_openView 3 = .ok (.invokevirtual 58, 3) := by decide +kernel
theorem dL_openView_6 : decode cL_openView 6 = .ok (.i2l, 1) := by decide +kernel
theorem dL_openView_7 : decode cL_openView 7 = .ok (.lastore, 1) := by decide +kernel
theorem dL_openView_8 : decode cL_openView 8 = .ok (.goto 6, 3) := by decide +kernel
theorem dL_openView_11 : decode cL_openView 11 = .ok (.astore_n 2, 1) := by decide +kernel
theorem dL_openView_12 : decode cL_openView 12 = .ok (.iconst 1, 1) := by decide +kernel
theorem dL_openView_13 : decode cL_openView 13 = .ok (.ireturn, 1) := by decide +kernel
theorem dL_openView_14 : decode cL_openView 14 = .ok (.iconst 0, 1) := by decide +kernel
theorem dL_openView_15 : decode cL_openView 15 = .ok (.ireturn, 1) := by decide +kernel
theorem dL_closeView_0 : decode cL_closeView 0 = .ok (.aload_n 2, 1) := by decide +kernel
theorem dL_closeView_1 : decode cL_closeView 1 = .ok (.iconst 0, 1) := by decide +kernel
theorem dL_closeView_2 : decode cL_closeView 2 = .ok (.aload_n 0, 1) := by decide +kernel
theorem dL_closeView_3 : decode cL_closeView 3 = .ok (.iload_n 1, 1) := by decide +kernel
theorem dL_closeView_4 : decode cL_closeView 4 = .ok (.invokevirtual 61, 3) := by decide +kernel
theorem dL_closeView_7 : decode cL_closeView 7 = .ok (.i2l, 1) := by decide +kernel
theorem dL_closeView_8 : decode cL_closeView 8 = .ok (.lastore, 1) := by decide +kernel
theorem dL_closeView_9 : decode cL_closeView 9 = .ok (.goto 6, 3) := by decide +kernel
theorem dL_closeView_12 : decode cL_closeView 12 = .ok (.astore_n 3, 1) := by decide +kernel
theorem dL_closeView_13 : decode cL_closeView 13 = .ok (.iconst 1, 1) := by decide +kernel
theorem dL_closeView_14 : decode cL_closeView 14 = .ok (.ireturn, 1) := by decide +kernel
theorem dL_closeView_15 : decode cL_closeView 15 = .ok (.iconst 0, 1) := by decide +kernel
theorem dL_closeView_16 : decode cL_closeView 16 = .ok (.ireturn, 1) := by decide +kernel
theorem dL_seen_0 : decode cL_seen 0 = .ok (.aload_n 2, 1) := by decide +kernel
theorem dL_seen_1 : decode cL_seen 1 = .ok (.iconst 0, 1) := by decide +kernel
theorem dL_seen_2 : decode cL_seen 2 = .ok (.aload_n 0, 1) := by decide +kernel
theorem dL_seen_3 : decode cL_seen 3 = .ok (.iload_n 1, 1) := by decide +kernel
theorem dL_seen_4 : decode cL_seen 4 = .ok (.invokevirtual 64, 3) := by decide +kernel
theorem dL_seen_7 : decode cL_seen 7 = .ok (.i2l, 1) := by decide +kernel
theorem dL_seen_8 : decode cL_seen 8 = .ok (.lastore, 1) := by decide +kernel
theorem dL_seen_9 : decode cL_seen 9 = .ok (.goto 6, 3) := by decide +kernel
theorem dL_seen_12 : decode cL_seen 12 = .ok (.astore_n 3, 1) := by decide +kernel
theorem dL_seen_13 : decode cL_seen 13 = .ok (.iconst 1, 1) := by decide +kernel
theorem dL_seen_14 : decode cL_seen 14 = .ok (.ireturn, 1) := by decide +kernel
theorem dL_seen_15 : decode cL_seen 15 = .ok (.iconst 0, 1) := by decide +kernel
theorem dL_seen_16 : decode cL_seen 16 = .ok (.ireturn, 1) := by decide +kernel
theorem dL_ask_0 : decode cL_ask 0 = .ok (.aload 6, 2) := by decide +kernel
theorem dL_ask_2 : decode cL_ask 2 = .ok (.iconst 0, 1) := by decide +kernel
theorem dL_ask_3 : decode cL_ask 3 = .ok (.aload_n 0, 1) := by decide +kernel
theorem dL_ask_4 : decode cL_ask 4 = .ok (.iload_n 1, 1) := by decide +kernel
theorem dL_ask_5 : decode cL_ask 5 = .ok (.iload_n 2, 1) := by decide +kernel
theorem dL_ask_6 : decode cL_ask 6 = .ok (.iload_n 3, 1) := by decide +kernel
theorem dL_ask_7 : decode cL_ask 7 = .ok (.iload 4, 2) := by decide +kernel
theorem dL_ask_9 : decode cL_ask 9 = .ok (.iload 5, 2) := by decide +kernel
theorem dL_ask_11 : decode cL_ask 11 = .ok (.invokevirtual 67, 3) := by decide +kernel
theorem dL_ask_14 : decode cL_ask 14 = .ok (.i2l, 1) := by decide +kernel
theorem dL_ask_15 : decode cL_ask 15 = .ok (.lastore, 1) := by decide +kernel
theorem dL_ask_16 : decode cL_ask 16 = .ok (.goto 11, 3) := by decide +kernel
theorem dL_ask_19 : decode cL_ask 19 = .ok (.astore 7, 2) := by decide +kernel
theorem dL_ask_21 : decode cL_ask 21 = .ok (.iconst 1, 1) := by decide +kernel
theorem dL_ask_22 : decode cL_ask 22 = .ok (.ireturn, 1) := by decide +kernel
theorem dL_ask_23 : decode cL_ask 23 = .ok (.astore 7, 2) := by decide +kernel
theorem dL_ask_25 : decode cL_ask 25 = .ok (.iconst 2, 1) := by decide +kernel
theorem dL_ask_26 : decode cL_ask 26 = .ok (.ireturn, 1) := by decide +kernel
theorem dL_ask_27 : decode cL_ask 27 = .ok (.iconst 0, 1) := by decide +kernel
theorem dL_ask_28 : decode cL_ask 28 = .ok (.ireturn, 1) := by decide +kernel
theorem dL_join_0 : decode cL_join 0 = .ok (.aload 4, 2) := by decide +kernel
theorem dL_join_2 : decode cL_join 2 = .ok (.iconst 0, 1) := by decide +kernel
theorem dL_join_3 : decode cL_join 3 = .ok (.aload_n 0, 1) := by decide +kernel
theorem dL_join_4 : decode cL_join 4 = .ok (.iload_n 1, 1) := by decide +kernel
theorem dL_join_5 : decode cL_join 5 = .ok (.iload_n 2, 1) := by decide +kernel
theorem dL_join_6 : decode cL_join 6 = .ok (.iload_n 3, 1) := by decide +kernel
theorem dL_join_7 : decode cL_join 7 = .ok (.invokevirtual 71, 3) := by decide +kernel
theorem dL_join_10 : decode cL_join 10 = .ok (.i2l, 1) := by decide +kernel
theorem dL_join_11 : decode cL_join 11 = .ok (.lastore, 1) := by decide +kernel
theorem dL_join_12 : decode cL_join 12 = .ok (.goto 15, 3) := by decide +kernel
theorem dL_join_15 : decode cL_join 15 = .ok (.astore 5, 2) := by decide +kernel
theorem dL_join_17 : decode cL_join 17 = .ok (.iconst 1, 1) := by decide +kernel
theorem dL_join_18 : decode cL_join 18 = .ok (.ireturn, 1) := by decide +kernel
theorem dL_join_19 : decode cL_join 19 = .ok (.astore 5, 2) := by decide +kernel
theorem dL_join_21 : decode cL_join 21 = .ok (.iconst 2, 1) := by decide +kernel
theorem dL_join_22 : decode cL_join 22 = .ok (.ireturn, 1) := by decide +kernel
theorem dL_join_23 : decode cL_join 23 = .ok (.astore 5, 2) := by decide +kernel
theorem dL_join_25 : decode cL_join 25 = .ok (.iconst 3, 1) := by decide +kernel
theorem dL_join_26 : decode cL_join 26 = .ok (.ireturn, 1) := by decide +kernel
theorem dL_join_27 : decode cL_join 27 = .ok (.iconst 0, 1) := by decide +kernel
theorem dL_join_28 : decode cL_join 28 = .ok (.ireturn, 1) := by decide +kernel
theorem dL_hits_0 : decode cL_hits 0 = .ok (.aload_n 3, 1) := by decide +kernel
theorem dL_hits_1 : decode cL_hits 1 = .ok (.iconst 0, 1) := by decide +kernel
theorem dL_hits_2 : decode cL_hits 2 = .ok (.aload_n 0, 1) := by decide +kernel
theorem dL_hits_3 : decode cL_hits 3 = .ok (.iload_n 1, 1) := by decide +kernel
theorem dL_hits_4 : decode cL_hits 4 = .ok (.iload_n 2, 1) := by decide +kernel
theorem dL_hits_5 : decode cL_hits 5 = .ok (.invokevirtual 74, 3) := by decide +kernel
theorem dL_hits_8 : decode cL_hits 8 = .ok (.i2l, 1) := by decide +kernel
theorem dL_hits_9 : decode cL_hits 9 = .ok (.lastore, 1) := by decide +kernel
theorem dL_hits_10 : decode cL_hits 10 = .ok (.goto 7, 3) := by decide +kernel
theorem dL_hits_13 : decode cL_hits 13 = .ok (.astore 4, 2) := by decide +kernel
theorem dL_hits_15 : decode cL_hits 15 = .ok (.iconst 1, 1) := by decide +kernel
theorem dL_hits_16 : decode cL_hits 16 = .ok (.ireturn, 1) := by decide +kernel
theorem dL_hits_17 : decode cL_hits 17 = .ok (.iconst 0, 1) := by decide +kernel
theorem dL_hits_18 : decode cL_hits 18 = .ok (.ireturn, 1) := by decide +kernel
theorem dL_hit_0 : decode cL_hit 0 = .ok (.aload 4, 2) := by decide +kernel
theorem dL_hit_2 : decode cL_hit 2 = .ok (.iconst 0, 1) := by decide +kernel
theorem dL_hit_3 : decode cL_hit 3 = .ok (.aload_n 0, 1) := by decide +kernel
theorem dL_hit_4 : decode cL_hit 4 = .ok (.iload_n 1, 1) := by decide +kernel
theorem dL_hit_5 : decode cL_hit 5 = .ok (.iload_n 2, 1) := by decide +kernel
theorem dL_hit_6 : decode cL_hit 6 = .ok (.iload_n 3, 1) := by decide +kernel
theorem dL_hit_7 : decode cL_hit 7 = .ok (.invokevirtual 77, 3) := by decide +kernel
theorem dL_hit_10 : decode cL_hit 10 = .ok (.i2l, 1) := by decide +kernel
theorem dL_hit_11 : decode cL_hit 11 = .ok (.lastore, 1) := by decide +kernel
theorem dL_hit_12 : decode cL_hit 12 = .ok (.goto 11, 3) := by decide +kernel
theorem dL_hit_15 : decode cL_hit 15 = .ok (.astore 5, 2) := by decide +kernel
theorem dL_hit_17 : decode cL_hit 17 = .ok (.iconst 1, 1) := by decide +kernel
theorem dL_hit_18 : decode cL_hit 18 = .ok (.ireturn, 1) := by decide +kernel
theorem dL_hit_19 : decode cL_hit 19 = .ok (.astore 5, 2) := by decide +kernel
theorem dL_hit_21 : decode cL_hit 21 = .ok (.iconst 2, 1) := by decide +kernel
theorem dL_hit_22 : decode cL_hit 22 = .ok (.ireturn, 1) := by decide +kernel
theorem dL_hit_23 : decode cL_hit 23 = .ok (.iconst 0, 1) := by decide +kernel
theorem dL_hit_24 : decode cL_hit 24 = .ok (.ireturn, 1) := by decide +kernel
theorem dL_score_0 : decode cL_score 0 = .ok (.aload 4, 2) := by decide +kernel
theorem dL_score_2 : decode cL_score 2 = .ok (.iconst 0, 1) := by decide +kernel
theorem dL_score_3 : decode cL_score 3 = .ok (.aload_n 0, 1) := by decide +kernel
theorem dL_score_4 : decode cL_score 4 = .ok (.iload_n 1, 1) := by decide +kernel
theorem dL_score_5 : decode cL_score 5 = .ok (.iload_n 2, 1) := by decide +kernel
theorem dL_score_6 : decode cL_score 6 = .ok (.iload_n 3, 1) := by decide +kernel
theorem dL_score_7 : decode cL_score 7 = .ok (.invokevirtual 82, 3) := by decide +kernel
theorem dL_score_10 : decode cL_score 10 = .ok (.lastore, 1) := by decide +kernel
theorem dL_score_11 : decode cL_score 11 = .ok (.goto 11, 3) := by decide +kernel
theorem dL_score_14 : decode cL_score 14 = .ok (.astore 5, 2) := by decide +kernel
theorem dL_score_16 : decode cL_score 16 = .ok (.iconst 1, 1) := by decide +kernel
theorem dL_score_17 : decode cL_score 17 = .ok (.ireturn, 1) := by decide +kernel
theorem dL_score_18 : decode cL_score 18 = .ok (.astore 5, 2) := by decide +kernel
theorem dL_score_20 : decode cL_score 20 = .ok (.iconst 2, 1) := by decide +kernel
theorem dL_score_21 : decode cL_score 21 = .ok (.ireturn, 1) := by decide +kernel
theorem dL_score_22 : decode cL_score 22 = .ok (.iconst 0, 1) := by decide +kernel
theorem dL_score_23 : decode cL_score 23 = .ok (.ireturn, 1) := by decide +kernel
theorem dL_scoreAlone_0 : decode cL_scoreAlone 0 = .ok (.aload 4, 2) := by decide +kernel
theorem dL_scoreAlone_2 : decode cL_scoreAlone 2 = .ok (.iconst 0, 1) := by decide +kernel
theorem dL_scoreAlone_3 : decode cL_scoreAlone 3 = .ok (.aload_n 0, 1) := by decide +kernel
theorem dL_scoreAlone_4 : decode cL_scoreAlone 4 = .ok (.iload_n 1, 1) := by decide +kernel
theorem dL_scoreAlone_5 : decode cL_scoreAlone 5 = .ok (.iload_n 2, 1) := by decide +kernel
theorem dL_scoreAlone_6 : decode cL_scoreAlone 6 = .ok (.iload_n 3, 1) := by decide +kernel
theorem dL_scoreAlone_7 : decode cL_scoreAlone 7 = .ok (.invokevirtual 86, 3) := by decide +kernel
theorem dL_scoreAlone_10 : decode cL_scoreAlone 10 = .ok (.lastore, 1) := by decide +kernel
theorem dL_scoreAlone_11 : decode cL_scoreAlone 11 = .ok (.goto 7, 3) := by decide +kernel
theorem dL_scoreAlone_14 : decode cL_scoreAlone 14 = .ok (.astore 5, 2) := by decide +kernel
theorem dL_scoreAlone_16 : decode cL_scoreAlone 16 = .ok (.iconst 1, 1) := by decide +kernel
theorem dL_scoreAlone_17 : decode cL_scoreAlone 17 = .ok (.ireturn, 1) := by decide +kernel
theorem dL_scoreAlone_18 : decode cL_scoreAlone 18 = .ok (.iconst 0, 1) := by decide +kernel
theorem dL_scoreAlone_19 : decode cL_scoreAlone 19 = .ok (.ireturn, 1) := by decide +kernel
theorem dL_tagged_0 : decode cL_tagged 0 = .ok (.aload 4, 2) := by decide +kernel
theorem dL_tagged_2 : decode cL_tagged 2 = .ok (.iconst 0, 1) := by decide +kernel
theorem dL_tagged_3 : decode cL_tagged 3 = .ok (.aload_n 0, 1) := by decide +kernel
theorem dL_tagged_4 : decode cL_tagged 4 = .ok (.iload_n 1, 1) := by decide +kernel
theorem dL_tagged_5 : decode cL_tagged 5 = .ok (.iload_n 2, 1) := by decide +kernel
theorem dL_tagged_6 : decode cL_tagged 6 = .ok (.iload_n 3, 1) := by decide +kernel
theorem dL_tagged_7 : decode cL_tagged 7 = .ok (.invokevirtual 89, 3) := by decide +kernel
theorem dL_tagged_10 : decode cL_tagged 10 = .ok (.i2l, 1) := by decide +kernel
theorem dL_tagged_11 : decode cL_tagged 11 = .ok (.lastore, 1) := by decide +kernel
theorem dL_tagged_12 : decode cL_tagged 12 = .ok (.goto 11, 3) := by decide +kernel
theorem dL_tagged_15 : decode cL_tagged 15 = .ok (.astore 5, 2) := by decide +kernel
theorem dL_tagged_17 : decode cL_tagged 17 = .ok (.iconst 1, 1) := by decide +kernel
theorem dL_tagged_18 : decode cL_tagged 18 = .ok (.ireturn, 1) := by decide +kernel
theorem dL_tagged_19 : decode cL_tagged 19 = .ok (.astore 5, 2) := by decide +kernel
theorem dL_tagged_21 : decode cL_tagged 21 = .ok (.iconst 2, 1) := by decide +kernel
theorem dL_tagged_22 : decode cL_tagged 22 = .ok (.ireturn, 1) := by decide +kernel
theorem dL_tagged_23 : decode cL_tagged 23 = .ok (.iconst 0, 1) := by decide +kernel
theorem dL_tagged_24 : decode cL_tagged 24 = .ok (.ireturn, 1) := by decide +kernel
theorem dL_firstTagged_0 : decode cL_firstTagged 0 = .ok (.aload 4, 2) := by decide +kernel
theorem dL_firstTagged_2 : decode cL_firstTagged 2 = .ok (.iconst 0, 1) := by decide +kernel
theorem dL_firstTagged_3 : decode cL_firstTagged 3 = .ok (.aload_n 0, 1) := by decide +kernel
theorem dL_firstTagged_4 : decode cL_firstTagged 4 = .ok (.iload_n 1, 1) := by decide +kernel
theorem dL_firstTagged_5 : decode cL_firstTagged 5 = .ok (.iload_n 2, 1) := by decide +kernel
theorem dL_firstTagged_6 : decode cL_firstTagged 6 = .ok (.iload_n 3, 1) := by decide +kernel
theorem dL_firstTagged_7 : decode cL_firstTagged 7 = .ok (.invokevirtual 92, 3) := by decide +kernel
theorem dL_firstTagged_10 : decode cL_firstTagged 10 = .ok (.i2l, 1) := by decide +kernel
theorem dL_firstTagged_11 : decode cL_firstTagged 11 = .ok (.lastore, 1) := by decide +kernel
theorem dL_firstTagged_12 : decode cL_firstTagged 12 = .ok (.goto 15, 3) := by decide +kernel
theorem dL_firstTagged_15 : decode cL_firstTagged 15 = .ok (.astore 5, 2) := by decide +kernel
theorem dL_firstTagged_17 : decode cL_firstTagged 17 = .ok (.iconst 1, 1) := by decide +kernel
theorem dL_firstTagged_18 : decode cL_firstTagged 18 = .ok (.ireturn, 1) := by decide +kernel
theorem dL_firstTagged_19 : decode cL_firstTagged 19 = .ok (.astore 5, 2) := by decide +kernel
theorem dL_firstTagged_21 : decode cL_firstTagged 21 = .ok (.iconst 2, 1) := by decide +kernel
theorem dL_firstTagged_22 : decode cL_firstTagged 22 = .ok (.ireturn, 1) := by decide +kernel
theorem dL_firstTagged_23 : decode cL_firstTagged 23 = .ok (.astore 5, 2) := by decide +kernel
theorem dL_firstTagged_25 : decode cL_firstTagged 25 = .ok (.iconst 3, 1) := by decide +kernel
theorem dL_firstTagged_26 : decode cL_firstTagged 26 = .ok (.ireturn, 1) := by decide +kernel
theorem dL_firstTagged_27 : decode cL_firstTagged 27 = .ok (.iconst 0, 1) := by decide +kernel
theorem dL_firstTagged_28 : decode cL_firstTagged 28 = .ok (.ireturn, 1) := by decide +kernel
theorem dL_wholes_0 : decode cL_wholes 0 = .ok (.aload_n 3, 1) := by decide +kernel
theorem dL_wholes_1 : decode cL_wholes 1 = .ok (.iconst 0, 1) := by decide +kernel
theorem dL_wholes_2 : decode cL_wholes 2 = .ok (.aload_n 0, 1) := by decide +kernel
theorem dL_wholes_3 : decode cL_wholes 3 = .ok (.iload_n 1, 1) := by decide +kernel
theorem dL_wholes_4 : decode cL_wholes 4 = .ok (.iload_n 2, 1) := by decide +kernel
theorem dL_wholes_5 : decode cL_wholes 5 = .ok (.invokevirtual 95, 3) := by decide +kernel
theorem dL_wholes_8 : decode cL_wholes 8 = .ok (.i2l, 1) := by decide +kernel
theorem dL_wholes_9 : decode cL_wholes 9 = .ok (.lastore, 1) := by decide +kernel
theorem dL_wholes_10 : decode cL_wholes 10 = .ok (.goto 7, 3) := by decide +kernel
theorem dL_wholes_13 : decode cL_wholes 13 = .ok (.astore 4, 2) := by decide +kernel
theorem dL_wholes_15 : decode cL_wholes 15 = .ok (.iconst 1, 1) := by decide +kernel
theorem dL_wholes_16 : decode cL_wholes 16 = .ok (.ireturn, 1) := by decide +kernel
theorem dL_wholes_17 : decode cL_wholes 17 = .ok (.iconst 0, 1) := by decide +kernel
theorem dL_wholes_18 : decode cL_wholes 18 = .ok (.ireturn, 1) := by decide +kernel
theorem dL_wholeScore_0 : decode cL_wholeScore 0 = .ok (.aload 4, 2) := by decide +kernel
theorem dL_wholeScore_2 : decode cL_wholeScore 2 = .ok (.iconst 0, 1) := by decide +kernel
theorem dL_wholeScore_3 : decode cL_wholeScore 3 = .ok (.aload_n 0, 1) := by decide +kernel
theorem dL_wholeScore_4 : decode cL_wholeScore 4 = .ok (.iload_n 1, 1) := by decide +kernel
theorem dL_wholeScore_5 : decode cL_wholeScore 5 = .ok (.iload_n 2, 1) := by decide +kernel
theorem dL_wholeScore_6 : decode cL_wholeScore 6 = .ok (.iload_n 3, 1) := by decide +kernel
theorem dL_wholeScore_7 : decode cL_wholeScore 7 = .ok (.invokevirtual 98, 3) := by decide +kernel
theorem dL_wholeScore_10 : decode cL_wholeScore 10 = .ok (.lastore, 1) := by decide +kernel
theorem dL_wholeScore_11 : decode cL_wholeScore 11 = .ok (.goto 11, 3) := by decide +kernel
theorem dL_wholeScore_14 : decode cL_wholeScore 14 = .ok (.astore 5, 2) := by decide +kernel
theorem dL_wholeScore_16 : decode cL_wholeScore 16 = .ok (.iconst 1, 1) := by decide +kernel
theorem dL_wholeScore_17 : decode cL_wholeScore 17 = .ok (.ireturn, 1) := by decide +kernel
theorem dL_wholeScore_18 : decode cL_wholeScore 18 = .ok (.astore 5, 2) := by decide +kernel
theorem dL_wholeScore_20 : decode cL_wholeScore 20 = .ok (.iconst 2, 1) := by decide +kernel
theorem dL_wholeScore_21 : decode cL_wholeScore 21 = .ok (.ireturn, 1) := by decide +kernel
theorem dL_wholeScore_22 : decode cL_wholeScore 22 = .ok (.iconst 0, 1) := by decide +kernel
theorem dL_wholeScore_23 : decode cL_wholeScore 23 = .ok (.ireturn, 1) := by decide +kernel
theorem dL_marked_0 : decode cL_marked 0 = .ok (.aload 4, 2) := by decide +kernel
theorem dL_marked_2 : decode cL_marked 2 = .ok (.iconst 0, 1) := by decide +kernel
theorem dL_marked_3 : decode cL_marked 3 = .ok (.aload_n 0, 1) := by decide +kernel
theorem dL_marked_4 : decode cL_marked 4 = .ok (.iload_n 1, 1) := by decide +kernel
theorem dL_marked_5 : decode cL_marked 5 = .ok (.iload_n 2, 1) := by decide +kernel
theorem dL_marked_6 : decode cL_marked 6 = .ok (.iload_n 3, 1) := by decide +kernel
theorem dL_marked_7 : decode cL_marked 7 = .ok (.invokevirtual 101, 3) := by decide +kernel
theorem dL_marked_10 : decode cL_marked 10 = .ok (.i2l, 1) := by decide +kernel
theorem dL_marked_11 : decode cL_marked 11 = .ok (.lastore, 1) := by decide +kernel
theorem dL_marked_12 : decode cL_marked 12 = .ok (.goto 11, 3) := by decide +kernel
theorem dL_marked_15 : decode cL_marked 15 = .ok (.astore 5, 2) := by decide +kernel
theorem dL_marked_17 : decode cL_marked 17 = .ok (.iconst 1, 1) := by decide +kernel
theorem dL_marked_18 : decode cL_marked 18 = .ok (.ireturn, 1) := by decide +kernel
theorem dL_marked_19 : decode cL_marked 19 = .ok (.astore 5, 2) := by decide +kernel
theorem dL_marked_21 : decode cL_marked 21 = .ok (.iconst 2, 1) := by decide +kernel
theorem dL_marked_22 : decode cL_marked 22 = .ok (.ireturn, 1) := by decide +kernel
theorem dL_marked_23 : decode cL_marked 23 = .ok (.iconst 0, 1) := by decide +kernel
theorem dL_marked_24 : decode cL_marked 24 = .ok (.ireturn, 1) := by decide +kernel
theorem dL_click_0 : decode cL_click 0 = .ok (.aload_n 2, 1) := by decide +kernel
theorem dL_click_1 : decode cL_click 1 = .ok (.iconst 0, 1) := by decide +kernel
theorem dL_click_2 : decode cL_click 2 = .ok (.aload_n 0, 1) := by decide +kernel
theorem dL_click_3 : decode cL_click 3 = .ok (.iload_n 1, 1) := by decide +kernel
theorem dL_click_4 : decode cL_click 4 = .ok (.invokevirtual 104, 3) := by decide +kernel
theorem dL_click_7 : decode cL_click 7 = .ok (.i2l, 1) := by decide +kernel
theorem dL_click_8 : decode cL_click 8 = .ok (.lastore, 1) := by decide +kernel
theorem dL_click_9 : decode cL_click 9 = .ok (.goto 6, 3) := by decide +kernel
theorem dL_click_12 : decode cL_click 12 = .ok (.astore_n 3, 1) := by decide +kernel
theorem dL_click_13 : decode cL_click 13 = .ok (.iconst 1, 1) := by decide +kernel
theorem dL_click_14 : decode cL_click 14 = .ok (.ireturn, 1) := by decide +kernel
theorem dL_click_15 : decode cL_click 15 = .ok (.iconst 0, 1) := by decide +kernel
theorem dL_click_16 : decode cL_click 16 = .ok (.ireturn, 1) := by decide +kernel
theorem dL_setBound_0 : decode cL_setBound 0 = .ok (.aload_n 2, 1) := by decide +kernel
theorem dL_setBound_1 : decode cL_setBound 1 = .ok (.iconst 0, 1) := by decide +kernel
theorem dL_setBound_2 : decode cL_setBound 2 = .ok (.aload_n 0, 1) := by decide +kernel
theorem dL_setBound_3 : decode cL_setBound 3 = .ok (.iload_n 1, 1) := by decide +kernel
theorem dL_setBound_4 : decode cL_setBound 4 = .ok (.invokevirtual 107, 3) := by decide +kernel
theorem dL_setBound_7 : decode cL_setBound 7 = .ok (.i2l, 1) := by decide +kernel
theorem dL_setBound_8 : decode cL_setBound 8 = .ok (.lastore, 1) := by decide +kernel
theorem dL_setBound_9 : decode cL_setBound 9 = .ok (.goto 6, 3) := by decide +kernel
theorem dL_setBound_12 : decode cL_setBound 12 = .ok (.astore_n 3, 1) := by decide +kernel
theorem dL_setBound_13 : decode cL_setBound 13 = .ok (.iconst 1, 1) := by decide +kernel
theorem dL_setBound_14 : decode cL_setBound 14 = .ok (.ireturn, 1) := by decide +kernel
theorem dL_setBound_15 : decode cL_setBound 15 = .ok (.iconst 0, 1) := by decide +kernel
theorem dL_setBound_16 : decode cL_setBound 16 = .ok (.ireturn, 1) := by decide +kernel
theorem dL_turned_0 : decode cL_turned 0 = .ok (.aload_n 3, 1) := by decide +kernel
theorem dL_turned_1 : decode cL_turned 1 = .ok (.iconst 0, 1) := by decide +kernel
theorem dL_turned_2 : decode cL_turned 2 = .ok (.aload_n 0, 1) := by decide +kernel
theorem dL_turned_3 : decode cL_turned 3 = .ok (.iload_n 1, 1) := by decide +kernel
theorem dL_turned_4 : decode cL_turned 4 = .ok (.iload_n 2, 1) := by decide +kernel
theorem dL_turned_5 : decode cL_turned 5 = .ok (.invokevirtual 110, 3) := by decide +kernel
theorem dL_turned_8 : decode cL_turned 8 = .ok (.i2l, 1) := by decide +kernel
theorem dL_turned_9 : decode cL_turned 9 = .ok (.lastore, 1) := by decide +kernel
theorem dL_turned_10 : decode cL_turned 10 = .ok (.goto 7, 3) := by decide +kernel
theorem dL_turned_13 : decode cL_turned 13 = .ok (.astore 4, 2) := by decide +kernel
theorem dL_turned_15 : decode cL_turned 15 = .ok (.iconst 1, 1) := by decide +kernel
theorem dL_turned_16 : decode cL_turned 16 = .ok (.ireturn, 1) := by decide +kernel
theorem dL_turned_17 : decode cL_turned 17 = .ok (.iconst 0, 1) := by decide +kernel
theorem dL_turned_18 : decode cL_turned 18 = .ok (.ireturn, 1) := by decide +kernel
theorem dL_removedShare_0 : decode cL_removedShare 0 = .ok (.aload_n 1, 1) := by decide +kernel
theorem dL_removedShare_1 : decode cL_removedShare 1 = .ok (.iconst 0, 1) := by decide +kernel
theorem dL_removedShare_2 : decode cL_removedShare 2 = .ok (.aload_n 0, 1) := by decide +kernel
theorem dL_removedShare_3 : decode cL_removedShare 3 = .ok (.invokevirtual 113, 3) := by decide +kernel
theorem dL_removedShare_6 : decode cL_removedShare 6 = .ok (.f2d, 1) := by decide +kernel
theorem dL_removedShare_7 : decode cL_removedShare 7 = .ok (.dastore, 1) := by decide +kernel
theorem dL_removedShare_8 : decode cL_removedShare 8 = .ok (.goto 6, 3) := by decide +kernel
theorem dL_removedShare_11 : decode cL_removedShare 11 = .ok (.astore_n 2, 1) := by decide +kernel
theorem dL_removedShare_12 : decode cL_removedShare 12 = .ok (.iconst 1, 1) := by decide +kernel
theorem dL_removedShare_13 : decode cL_removedShare 13 = .ok (.ireturn, 1) := by decide +kernel
theorem dL_removedShare_14 : decode cL_removedShare 14 = .ok (.iconst 0, 1) := by decide +kernel
theorem dL_removedShare_15 : decode cL_removedShare 15 = .ok (.ireturn, 1) := by decide +kernel
theorem dL_meanLength_0 : decode cL_meanLength 0 = .ok (.aload_n 2, 1) := by decide +kernel
theorem dL_meanLength_1 : decode cL_meanLength 1 = .ok (.iconst 0, 1) := by decide +kernel
theorem dL_meanLength_2 : decode cL_meanLength 2 = .ok (.aload_n 0, 1) := by decide +kernel
theorem dL_meanLength_3 : decode cL_meanLength 3 = .ok (.iload_n 1, 1) := by decide +kernel
theorem dL_meanLength_4 : decode cL_meanLength 4 = .ok (.invokevirtual 119, 3) := by decide +kernel
theorem dL_meanLength_7 : decode cL_meanLength 7 = .ok (.dastore, 1) := by decide +kernel
theorem dL_meanLength_8 : decode cL_meanLength 8 = .ok (.goto 9, 3) := by decide +kernel
theorem dL_meanLength_11 : decode cL_meanLength 11 = .ok (.astore_n 3, 1) := by decide +kernel
theorem dL_meanLength_12 : decode cL_meanLength 12 = .ok (.iconst 1, 1) := by decide +kernel
theorem dL_meanLength_13 : decode cL_meanLength 13 = .ok (.ireturn, 1) := by decide +kernel
theorem dL_meanLength_14 : decode cL_meanLength 14 = .ok (.astore_n 3, 1) := by decide +kernel
theorem dL_meanLength_15 : decode cL_meanLength 15 = .ok (.iconst 2, 1) := by decide +kernel
theorem dL_meanLength_16 : decode cL_meanLength 16 = .ok (.ireturn, 1) := by decide +kernel
theorem dL_meanLength_17 : decode cL_meanLength 17 = .ok (.iconst 0, 1) := by decide +kernel
theorem dL_meanLength_18 : decode cL_meanLength 18 = .ok (.ireturn, 1) := by decide +kernel
