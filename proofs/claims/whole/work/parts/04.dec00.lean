theorem dX0_init_0 : decode cX0_init 0 = .ok (.aload_n 0, 1) := by decide +kernel
theorem dX0_init_1 : decode cX0_init 1 = .ok (.invokespecial 1, 3) := by decide +kernel
theorem dX0_init_4 : decode cX0_init 4 = .ok (.aload_n 0, 1) := by decide +kernel
theorem dX0_init_5 : decode cX0_init 5 = .ok (.iload_n 1, 1) := by decide +kernel
theorem dX0_init_6 : decode cX0_init 6 = .ok (.putfield 7, 3) := by decide +kernel
theorem dX0_init_9 : decode cX0_init 9 = .ok (.aload_n 0, 1) := by decide +kernel
theorem dX0_init_10 : decode cX0_init 10 = .ok (.lload_n 2, 1) := by decide +kernel
theorem dX0_init_11 : decode cX0_init 11 = .ok (.putfield 13, 3) := by decide +kernel
theorem dX0_init_14 : decode cX0_init 14 = .ok (.aload_n 0, 1) := by decide +kernel
theorem dX0_init_15 : decode cX0_init 15 = .ok (.aload 4, 2) := by decide +kernel
theorem dX0_init_17 : decode cX0_init 17 = .ok (.putfield 17, 3) := by decide +kernel
theorem dX0_init_20 : decode cX0_init 20 = .ok (.return_, 1) := by decide +kernel
theorem dX1_init_0 : decode cX1_init 0 = .ok (.aload_n 0, 1) := by decide +kernel
theorem dX1_init_1 : decode cX1_init 1 = .ok (.invokespecial 3, 3) := by decide +kernel
theorem dX1_init_4 : decode cX1_init 4 = .ok (.aload_n 0, 1) := by decide +kernel
theorem dX1_init_5 : decode cX1_init 5 = .ok (.iconst 0, 1) := by decide +kernel
theorem dX1_init_6 : decode cX1_init 6 = .ok (.putfield 9, 3) := by decide +kernel
theorem dX1_init_9 : decode cX1_init 9 = .ok (.aload_n 0, 1) := by decide +kernel
theorem dX1_init_10 : decode cX1_init 10 = .ok (.bipush 8, 2) := by decide +kernel
theorem dX1_init_12 : decode cX1_init 12 = .ok (.anewarray 15, 3) := by decide +kernel
theorem dX1_init_15 : decode cX1_init 15 = .ok (.putfield 17, 3) := by decide +kernel
theorem dX1_init_18 : decode cX1_init 18 = .ok (.aload_n 0, 1) := by decide +kernel
theorem dX1_init_19 : decode cX1_init 19 = .ok (.ldc2_w 21, 3) := by decide +kernel
theorem dX1_init_22 : decode cX1_init 22 = .ok (.putfield 23, 3) := by decide +kernel
theorem dX1_init_25 : decode cX1_init 25 = .ok (.aload_n 0, 1) := by decide +kernel
theorem dX1_init_26 : decode cX1_init 26 = .ok (.iload_n 1, 1) := by decide +kernel
theorem dX1_init_27 : decode cX1_init 27 = .ok (.putfield 27, 3) := by decide +kernel
theorem dX1_init_30 : decode cX1_init 30 = .ok (.aload_n 0, 1) := by decide +kernel
theorem dX1_init_31 : decode cX1_init 31 = .ok (.aload_n 2, 1) := by decide +kernel
theorem dX1_init_32 : decode cX1_init 32 = .ok (.putfield 30, 3) := by decide +kernel
theorem dX1_init_35 : decode cX1_init 35 = .ok (.iconst 0, 1) := by decide +kernel
theorem dX1_init_36 : decode cX1_init 36 = .ok (.istore_n 3, 1) := by decide +kernel
theorem dX1_init_37 : decode cX1_init 37 = .ok (.iload_n 3, 1) := by decide +kernel
theorem dX1_init_38 : decode cX1_init 38 = .ok (.bipush 8, 2) := by decide +kernel
theorem dX1_init_40 : decode cX1_init 40 = .ok (.if_icmp .ge 16, 3) := by decide +kernel
theorem dX1_init_43 : decode cX1_init 43 = .ok (.aload_n 0, 1) := by decide +kernel
theorem dX1_init_44 : decode cX1_init 44 = .ok (.getfield 17, 3) := by decide +kernel
theorem dX1_init_47 : decode cX1_init 47 = .ok (.iload_n 3, 1) := by decide +kernel
theorem dX1_init_48 : decode cX1_init 48 = .ok (.aload_n 2, 1) := by decide +kernel
theorem dX1_init_49 : decode cX1_init 49 = .ok (.aastore, 1) := by decide +kernel
theorem dX1_init_50 : decode cX1_init 50 = .ok (.iinc 3 1, 3) := by decide +kernel
theorem dX1_init_53 : decode cX1_init 53 = .ok (.goto (-16), 3) := by decide +kernel
theorem dX1_init_56 : decode cX1_init 56 = .ok (.return_, 1) := by decide +kernel
theorem dX1_isReady_0 : decode cX1_isReady 0 = .ok (.aload_n 0, 1) := by decide +kernel
theorem dX1_isReady_1 : decode cX1_isReady 1 = .ok (.getfield 34, 3) := by decide +kernel
theorem dX1_isReady_4 : decode cX1_isReady 4 = .ok (.ifnull 7, 3) := by decide +kernel
theorem dX1_isReady_7 : decode cX1_isReady 7 = .ok (.iconst 1, 1) := by decide +kernel
theorem dX1_isReady_8 : decode cX1_isReady 8 = .ok (.goto 4, 3) := by decide +kernel
theorem dX1_isReady_11 : decode cX1_isReady 11 = .ok (.iconst 0, 1) := by decide +kernel
theorem dX1_isReady_12 : decode cX1_isReady 12 = .ok (.ireturn, 1) := by decide +kernel
theorem dX1_prepare_0 : decode cX1_prepare 0 = .ok (.aload_n 0, 1) := by decide +kernel
theorem dX1_prepare_1 : decode cX1_prepare 1 = .ok (.aload_n 0, 1) := by decide +kernel
theorem dX1_prepare_2 : decode cX1_prepare 2 = .ok (.getfield 38, 3) := by decide +kernel
theorem dX1_prepare_5 : decode cX1_prepare 5 = .ok (.iconst 1, 1) := by decide +kernel
theorem dX1_prepare_6 : decode cX1_prepare 6 = .ok (.iadd, 1) := by decide +kernel
theorem dX1_prepare_7 : decode cX1_prepare 7 = .ok (.aload_n 0, 1) := by decide +kernel
theorem dX1_prepare_8 : decode cX1_prepare 8 = .ok (.getfield 41, 3) := by decide +kernel
theorem dX1_prepare_11 : decode cX1_prepare 11 = .ok (.invokestatic 44, 3) := by decide +kernel
theorem dX1_prepare_14 : decode cX1_prepare 14 = .ok (.putfield 38, 3) := by decide +kernel
theorem dX1_prepare_17 : decode cX1_prepare 17 = .ok (.aload_n 0, 1) := by decide +kernel
theorem dX1_prepare_18 : decode cX1_prepare 18 = .ok (.bipush 8, 2) := by decide +kernel
theorem dX1_prepare_20 : decode cX1_prepare 20 = .ok (.aload_n 0, 1) := by decide +kernel
theorem dX1_prepare_21 : decode cX1_prepare 21 = .ok (.getfield 38, 3) := by decide +kernel
theorem dX1_prepare_24 : decode cX1_prepare 24 = .ok (.imul, 1) := by decide +kernel
theorem dX1_prepare_25 : decode cX1_prepare 25 = .ok (.aload_n 0, 1) := by decide +kernel
theorem dX1_prepare_26 : decode cX1_prepare 26 = .ok (.getfield 27, 3) := by decide +kernel
theorem dX1_prepare_29 : decode cX1_prepare 29 = .ok (.iadd, 1) := by decide +kernel
theorem dX1_prepare_30 : decode cX1_prepare 30 = .ok (.putfield 50, 3) := by decide +kernel
theorem dX1_prepare_33 : decode cX1_prepare 33 = .ok (.aload_n 0, 1) := by decide +kernel
theorem dX1_prepare_34 : decode cX1_prepare 34 = .ok (.iconst 1, 1) := by decide +kernel
theorem dX1_prepare_35 : decode cX1_prepare 35 = .ok (.putfield 9, 3) := by decide +kernel
theorem dX1_prepare_38 : decode cX1_prepare 38 = .ok (.aload_n 0, 1) := by decide +kernel
theorem dX1_prepare_39 : decode cX1_prepare 39 = .ok (.iconst 0, 1) := by decide +kernel
theorem dX1_prepare_40 : decode cX1_prepare 40 = .ok (.putfield 53, 3) := by decide +kernel
theorem dX1_prepare_43 : decode cX1_prepare 43 = .ok (.iconst 0, 1) := by decide +kernel
theorem dX1_prepare_44 : decode cX1_prepare 44 = .ok (.istore_n 1, 1) := by decide +kernel
theorem dX1_prepare_45 : decode cX1_prepare 45 = .ok (.iload_n 1, 1) := by decide +kernel
theorem dX1_prepare_46 : decode cX1_prepare 46 = .ok (.bipush 8, 2) := by decide +kernel
theorem dX1_prepare_48 : decode cX1_prepare 48 = .ok (.if_icmp .ge 19, 3) := by decide +kernel
theorem dX1_prepare_51 : decode cX1_prepare 51 = .ok (.aload_n 0, 1) := by decide +kernel
theorem dX1_prepare_52 : decode cX1_prepare 52 = .ok (.getfield 17, 3) := by decide +kernel
theorem dX1_prepare_55 : decode cX1_prepare 55 = .ok (.iload_n 1, 1) := by decide +kernel
theorem dX1_prepare_56 : decode cX1_prepare 56 = .ok (.aload_n 0, 1) := by decide +kernel
theorem dX1_prepare_57 : decode cX1_prepare 57 = .ok (.getfield 30, 3) := by decide +kernel
theorem dX1_prepare_60 : decode cX1_prepare 60 = .ok (.aastore, 1) := by decide +kernel
theorem dX1_prepare_61 : decode cX1_prepare 61 = .ok (.iinc 1 1, 3) := by decide +kernel
theorem dX1_prepare_64 : decode cX1_prepare 64 = .ok (.goto (-19), 3) := by decide +kernel
theorem dX1_prepare_67 : decode cX1_prepare 67 = .ok (.return_, 1) := by decide +kernel
theorem dX1_accept_0 : decode cX1_accept 0 = .ok (.aload_n 0, 1) := by decide +kernel
theorem dX1_accept_1 : decode cX1_accept 1 = .ok (.aload_n 1, 1) := by decide +kernel
theorem dX1_accept_2 : decode cX1_accept 2 = .ok (.putfield 56, 3) := by decide +kernel
theorem dX1_accept_5 : decode cX1_accept 5 = .ok (.aload_n 0, 1) := by decide +kernel
theorem dX1_accept_6 : decode cX1_accept 6 = .ok (.iconst 2, 1) := by decide +kernel
theorem dX1_accept_7 : decode cX1_accept 7 = .ok (.putfield 9, 3) := by decide +kernel
theorem dX1_accept_10 : decode cX1_accept 10 = .ok (.aload_n 0, 1) := by decide +kernel
theorem dX1_accept_11 : decode cX1_accept 11 = .ok (.iconst 0, 1) := by decide +kernel
theorem dX1_accept_12 : decode cX1_accept 12 = .ok (.putfield 53, 3) := by decide +kernel
theorem dX1_accept_15 : decode cX1_accept 15 = .ok (.return_, 1) := by decide +kernel
theorem dX1_fail_0 : decode cX1_fail 0 = .ok (.aload_n 0, 1) := by decide +kernel
theorem dX1_fail_1 : decode cX1_fail 1 = .ok (.iconst 0, 1) := by decide +kernel
theorem dX1_fail_2 : decode cX1_fail 2 = .ok (.putfield 9, 3) := by decide +kernel
theorem dX1_fail_5 : decode cX1_fail 5 = .ok (.aload_n 0, 1) := by decide +kernel
theorem dX1_fail_6 : decode cX1_fail 6 = .ok (.dup, 1) := by decide +kernel
theorem dX1_fail_7 : decode cX1_fail 7 = .ok (.getfield 59, 3) := by decide +kernel
theorem dX1_fail_10 : decode cX1_fail 10 = .ok (.iconst 1, 1) := by decide +kernel
theorem dX1_fail_11 : decode cX1_fail 11 = .ok (.iadd, 1) := by decide +kernel
theorem dX1_fail_12 : decode cX1_fail 12 = .ok (.putfield 59, 3) := by decide +kernel
theorem dX1_fail_15 : decode cX1_fail 15 = .ok (.return_, 1) := by decide +kernel
theorem dX1_breakDown_0 : decode cX1_breakDown 0 = .ok (.aload_n 0, 1) := by decide +kernel
theorem dX1_breakDown_1 : decode cX1_breakDown 1 = .ok (.iconst 0, 1) := by decide +kernel
theorem dX1_breakDown_2 : decode cX1_breakDown 2 = .ok (.putfield 9, 3) := by decide +kernel
theorem dX1_breakDown_5 : decode cX1_breakDown 5 = .ok (.aload_n 0, 1) := by decide +kernel
theorem dX1_breakDown_6 : decode cX1_breakDown 6 = .ok (.iconst 0, 1) := by decide +kernel
theorem dX1_breakDown_7 : decode cX1_breakDown 7 = .ok (.putfield 41, 3) := by decide +kernel
theorem dX1_breakDown_10 : decode cX1_breakDown 10 = .ok (.aload_n 0, 1) := by decide +kernel
theorem dX1_breakDown_11 : decode cX1_breakDown 11 = .ok (.aconst_null, 1) := by decide +kernel
theorem dX1_breakDown_12 : decode cX1_breakDown 12 = .ok (.invokevirtual 62, 3) := by decide +kernel
theorem dX1_breakDown_15 : decode cX1_breakDown 15 = .ok (.return_, 1) := by decide +kernel
theorem dX1_hold_0 : decode cX1_hold 0 = .ok (.aload_n 0, 1) := by decide +kernel
theorem dX1_hold_1 : decode cX1_hold 1 = .ok (.aload_n 1, 1) := by decide +kernel
theorem dX1_hold_2 : decode cX1_hold 2 = .ok (.putfield 34, 3) := by decide +kernel
theorem dX1_hold_5 : decode cX1_hold 5 = .ok (.aload_n 0, 1) := by decide +kernel
theorem dX1_hold_6 : decode cX1_hold 6 = .ok (.ldc2_w 21, 3) := by decide +kernel
theorem dX1_hold_9 : decode cX1_hold 9 = .ok (.putfield 23, 3) := by decide +kernel
theorem dX1_hold_12 : decode cX1_hold 12 = .ok (.aload_n 0, 1) := by decide +kernel
theorem dX1_hold_13 : decode cX1_hold 13 = .ok (.iconst 0, 1) := by decide +kernel
theorem dX1_hold_14 : decode cX1_hold 14 = .ok (.putfield 66, 3) := by decide +kernel
theorem dX1_hold_17 : decode cX1_hold 17 = .ok (.return_, 1) := by decide +kernel
theorem dX1_isDecidedBy_0 : decode cX1_isDecidedBy 0 = .ok (.aload_n 1, 1) := by decide +kernel
theorem dX1_isDecidedBy_1 : decode cX1_isDecidedBy 1 = .ok (.getfield 69, 3) := by decide +kernel
theorem dX1_isDecidedBy_4 : decode cX1_isDecidedBy 4 = .ok (.iconst 1, 1) := by decide +kernel
theorem dX1_isDecidedBy_5 : decode cX1_isDecidedBy 5 = .ok (.if_icmp .ne 24, 3) := by decide +kernel
theorem dX1_isDecidedBy_8 : decode cX1_isDecidedBy 8 = .ok (.aload_n 0, 1) := by decide +kernel
theorem dX1_isDecidedBy_9 : decode cX1_isDecidedBy 9 = .ok (.aload_n 1, 1) := by decide +kernel
theorem dX1_isDecidedBy_10 : decode cX1_isDecidedBy 10 = .ok (.iconst 1, 1) := by decide +kernel
theorem dX1_isDecidedBy_11 : decode cX1_isDecidedBy 11 = .ok (.invokevirtual 74, 3) := by decide +kernel
theorem dX1_isDecidedBy_14 : decode cX1_isDecidedBy 14 = .ok (.ifCond .eq 15, 3) := by decide +kernel
theorem dX1_isDecidedBy_17 : decode cX1_isDecidedBy 17 = .ok (.aload_n 0, 1) := by decide +kernel
theorem dX1_isDecidedBy_18 : decode cX1_isDecidedBy 18 = .ok (.aload_n 1, 1) := by decide +kernel
theorem dX1_isDecidedBy_19 : decode cX1_isDecidedBy 19 = .ok (.invokevirtual 78, 3) := by decide +kernel
theorem dX1_isDecidedBy_22 : decode cX1_isDecidedBy 22 = .ok (.ifCond .eq 7, 3) := by decide +kernel
theorem dX1_isDecidedBy_25 : decode cX1_isDecidedBy 25 = .ok (.iconst 1, 1) := by decide +kernel
theorem dX1_isDecidedBy_26 : decode cX1_isDecidedBy 26 = .ok (.goto 4, 3) := by decide +kernel
theorem dX1_isDecidedBy_29 : decode cX1_isDecidedBy 29 = .ok (.iconst 0, 1) := by decide +kernel
theorem dX1_isDecidedBy_30 : decode cX1_isDecidedBy 30 = .ok (.ireturn, 1) := by decide +kernel
theorem dX1_receive_0 : decode cX1_receive 0 = .ok (.aload_n 1, 1) := by decide +kernel
theorem dX1_receive_1 : decode cX1_receive 1 = .ok (.getfield 69, 3) := by decide +kernel
theorem dX1_receive_4 : decode cX1_receive 4 = .ok (.iconst 1, 1) := by decide +kernel
theorem dX1_receive_5 : decode cX1_receive 5 = .ok (.if_icmp .ne 20, 3) := by decide +kernel
theorem dX1_receive_8 : decode cX1_receive 8 = .ok (.aload_n 0, 1) := by decide +kernel
theorem dX1_receive_9 : decode cX1_receive 9 = .ok (.aload_n 1, 1) := by decide +kernel
theorem dX1_receive_10 : decode cX1_receive 10 = .ok (.iconst 1, 1) := by decide +kernel
theorem dX1_receive_11 : decode cX1_receive 11 = .ok (.invokevirtual 74, 3) := by decide +kernel
theorem dX1_receive_14 : decode cX1_receive 14 = .ok (.ifCond .eq 11, 3) := by decide +kernel
theorem dX1_receive_17 : decode cX1_receive 17 = .ok (.aload_n 0, 1) := by decide +kernel
theorem dX1_receive_18 : decode cX1_receive 18 = .ok (.aload_n 1, 1) := by decide +kernel
theorem dX1_receive_19 : decode cX1_receive 19 = .ok (.invokevirtual 82, 3) := by decide +kernel
theorem dX1_receive_22 : decode cX1_receive 22 = .ok (.goto 71, 3) := by decide +kernel
theorem dX1_receive_25 : decode cX1_receive 25 = .ok (.aload_n 1, 1) := by decide +kernel
theorem dX1_receive_26 : decode cX1_receive 26 = .ok (.getfield 69, 3) := by decide +kernel
theorem dX1_receive_29 : decode cX1_receive 29 = .ok (.iconst 3, 1) := by decide +kernel
theorem dX1_receive_30 : decode cX1_receive 30 = .ok (.if_icmp .ne 20, 3) := by decide +kernel
theorem dX1_receive_33 : decode cX1_receive 33 = .ok (.aload_n 0, 1) := by decide +kernel
theorem dX1_receive_34 : decode cX1_receive 34 = .ok (.aload_n 1, 1) := by decide +kernel
theorem dX1_receive_35 : decode cX1_receive 35 = .ok (.iconst 2, 1) := by decide +kernel
theorem dX1_receive_36 : decode cX1_receive 36 = .ok (.invokevirtual 74, 3) := by decide +kernel
theorem dX1_receive_39 : decode cX1_receive 39 = .ok (.ifCond .eq 11, 3) := by decide +kernel
theorem dX1_receive_42 : decode cX1_receive 42 = .ok (.aload_n 0, 1) := by decide +kernel
theorem dX1_receive_43 : decode cX1_receive 43 = .ok (.aload_n 1, 1) := by decide +kernel
theorem dX1_receive_44 : decode cX1_receive 44 = .ok (.invokevirtual 86, 3) := by decide +kernel
theorem dX1_receive_47 : decode cX1_receive 47 = .ok (.goto 46, 3) := by decide +kernel
theorem dX1_receive_50 : decode cX1_receive 50 = .ok (.aload_n 1, 1) := by decide +kernel
theorem dX1_receive_51 : decode cX1_receive 51 = .ok (.getfield 69, 3) := by decide +kernel
theorem dX1_receive_54 : decode cX1_receive 54 = .ok (.iconst 4, 1) := by decide +kernel
theorem dX1_receive_55 : decode cX1_receive 55 = .ok (.if_icmp .ne 38, 3) := by decide +kernel
theorem dX1_receive_58 : decode cX1_receive 58 = .ok (.aload_n 0, 1) := by decide +kernel
theorem dX1_receive_59 : decode cX1_receive 59 = .ok (.getfield 9, 3) := by decide +kernel
theorem dX1_receive_62 : decode cX1_receive 62 = .ok (.ifCond .eq 31, 3) := by decide +kernel
theorem dX1_receive_65 : decode cX1_receive 65 = .ok (.aload_n 1, 1) := by decide +kernel
theorem dX1_receive_66 : decode cX1_receive 66 = .ok (.getfield 89, 3) := by decide +kernel
theorem dX1_receive_69 : decode cX1_receive 69 = .ok (.aload_n 0, 1) := by decide +kernel
theorem dX1_receive_70 : decode cX1_receive 70 = .ok (.getfield 50, 3) := by decide +kernel
theorem dX1_receive_73 : decode cX1_receive 73 = .ok (.if_icmp .ne 20, 3) := by decide +kernel
theorem dX1_receive_76 : decode cX1_receive 76 = .ok (.aload_n 0, 1) := by decide +kernel
theorem dX1_receive_77 : decode cX1_receive 77 = .ok (.aload_n 1, 1) := by decide +kernel
theorem dX1_receive_78 : decode cX1_receive 78 = .ok (.getfield 90, 3) := by decide +kernel
theorem dX1_receive_81 : decode cX1_receive 81 = .ok (.bipush 8, 2) := by decide +kernel
theorem dX1_receive_83 : decode cX1_receive 83 = .ok (.idiv, 1) := by decide +kernel
theorem dX1_receive_84 : decode cX1_receive 84 = .ok (.iconst 1, 1) := by decide +kernel
theorem dX1_receive_85 : decode cX1_receive 85 = .ok (.iadd, 1) := by decide +kernel
theorem dX1_receive_86 : decode cX1_receive 86 = .ok (.putfield 41, 3) := by decide +kernel
theorem dX1_receive_89 : decode cX1_receive 89 = .ok (.aload_n 0, 1) := by decide +kernel
theorem dX1_receive_90 : decode cX1_receive 90 = .ok (.invokevirtual 93, 3) := by decide +kernel
theorem dX1_receive_93 : decode cX1_receive 93 = .ok (.return_, 1) := by decide +kernel
theorem dX1_counts_0 : decode cX1_counts 0 = .ok (.aload_n 0, 1) := by decide +kernel
theorem dX1_counts_1 : decode cX1_counts 1 = .ok (.getfield 9, 3) := by decide +kernel
theorem dX1_counts_4 : decode cX1_counts 4 = .ok (.iload_n 2, 1) := by decide +kernel
theorem dX1_counts_5 : decode cX1_counts 5 = .ok (.if_icmp .ne 32, 3) := by decide +kernel
theorem dX1_counts_8 : decode cX1_counts 8 = .ok (.aload_n 1, 1) := by decide +kernel
theorem dX1_counts_9 : decode cX1_counts 9 = .ok (.getfield 89, 3) := by decide +kernel
theorem dX1_counts_12 : decode cX1_counts 12 = .ok (.aload_n 0, 1) := by decide +kernel
theorem dX1_counts_13 : decode cX1_counts 13 = .ok (.getfield 50, 3) := by decide +kernel
theorem dX1_counts_16 : decode cX1_counts 16 = .ok (.if_icmp .ne 21, 3) := by decide +kernel
theorem dX1_counts_19 : decode cX1_counts 19 = .ok (.aload_n 0, 1) := by decide +kernel
theorem dX1_counts_20 : decode cX1_counts 20 = .ok (.getfield 53, 3) := by decide +kernel
theorem dX1_counts_23 : decode cX1_counts 23 = .ok (.iconst 1, 1) := by decide +kernel
theorem dX1_counts_24 : decode cX1_counts 24 = .ok (.aload_n 1, 1) := by decide +kernel
theorem dX1_counts_25 : decode cX1_counts 25 = .ok (.getfield 96, 3) := by decide +kernel
theorem dX1_counts_28 : decode cX1_counts 28 = .ok (.ishl, 1) := by decide +kernel
theorem dX1_counts_29 : decode cX1_counts 29 = .ok (.iand, 1) := by decide +kernel
theorem dX1_counts_30 : decode cX1_counts 30 = .ok (.ifCond .ne 7, 3) := by decide +kernel
theorem dX1_counts_33 : decode cX1_counts 33 = .ok (.iconst 1, 1) := by decide +kernel
theorem dX1_counts_34 : decode cX1_counts 34 = .ok (.goto 4, 3) := by decide +kernel
theorem dX1_counts_37 : decode cX1_counts 37 = .ok (.iconst 0, 1) := by decide +kernel
theorem dX1_counts_38 : decode cX1_counts 38 = .ok (.ireturn, 1) := by decide +kernel
theorem dX1_isMajorityWith_0 : decode cX1_isMajorityWith 0 = .ok (.aload_n 0, 1) := by decide +kernel
theorem dX1_isMajorityWith_1 : decode cX1_isMajorityWith 1 = .ok (.getfield 53, 3) := by decide +kernel
theorem dX1_isMajorityWith_4 : decode cX1_isMajorityWith 4 = .ok (.iconst 1, 1) := by decide +kernel
theorem dX1_isMajorityWith_5 : decode cX1_isMajorityWith 5 = .ok (.aload_n 1, 1) := by decide +kernel
theorem dX1_isMajorityWith_6 : decode cX1_isMajorityWith 6 = .ok (.getfield 96, 3) := by decide +kernel
theorem dX1_isMajorityWith_9 : decode cX1_isMajorityWith 9 = .ok (.ishl, 1) := by decide +kernel
theorem dX1_isMajorityWith_10 : decode cX1_isMajorityWith 10 = .ok (.ior, 1) := by decide +kernel
theorem dX1_isMajorityWith_11 : decode cX1_isMajorityWith 11 = .ok (.invokestatic 99, 3) := by decide +kernel
theorem dX1_isMajorityWith_14 : decode cX1_isMajorityWith 14 = .ok (.iconst 3, 1) := by decide +kernel
theorem dX1_isMajorityWith_15 : decode cX1_isMajorityWith 15 = .ok (.if_icmp .lt 7, 3) := by decide +kernel
theorem dX1_isMajorityWith_18 : decode cX1_isMajorityWith 18 = .ok (.iconst 1, 1) := by decide +kernel
theorem dX1_isMajorityWith_19 : decode cX1_isMajorityWith 19 = .ok (.goto 4, 3) := by decide +kernel
theorem dX1_isMajorityWith_22 : decode cX1_isMajorityWith 22 = .ok (.iconst 0, 1) := by decide +kernel
theorem dX1_isMajorityWith_23 : decode cX1_isMajorityWith 23 = .ok (.ireturn, 1) := by decide +kernel
theorem dX1_countPromise_0 : decode cX1_countPromise 0 = .ok (.aload_n 0, 1) := by decide +kernel
theorem dX1_countPromise_1 : decode cX1_countPromise 1 = .ok (.dup, 1) := by decide +kernel
theorem dX1_countPromise_2 : decode cX1_countPromise 2 = .ok (.getfield 53, 3) := by decide +kernel
theorem dX1_countPromise_5 : decode cX1_countPromise 5 = .ok (.iconst 1, 1) := by decide +kernel
theorem dX1_countPromise_6 : decode cX1_countPromise 6 = .ok (.aload_n 1, 1) := by decide +kernel
theorem dX1_countPromise_7 : decode cX1_countPromise 7 = .ok (.getfield 96, 3) := by decide +kernel
theorem dX1_countPromise_10 : decode cX1_countPromise 10 = .ok (.ishl, 1) := by decide +kernel
theorem dX1_countPromise_11 : decode cX1_countPromise 11 = .ok (.ior, 1) := by decide +kernel
theorem dX1_countPromise_12 : decode cX1_countPromise 12 = .ok (.putfield 53, 3) := by decide +kernel
theorem dX1_countPromise_15 : decode cX1_countPromise 15 = .ok (.iconst 0, 1) := by decide +kernel
theorem dX1_countPromise_16 : decode cX1_countPromise 16 = .ok (.istore_n 2, 1) := by decide +kernel
theorem dX1_countPromise_17 : decode cX1_countPromise 17 = .ok (.iload_n 2, 1) := by decide +kernel
theorem dX1_countPromise_18 : decode cX1_countPromise 18 = .ok (.bipush 8, 2) := by decide +kernel
theorem dX1_countPromise_20 : decode cX1_countPromise 20 = .ok (.if_icmp .ge 30, 3) := by decide +kernel
theorem dX1_countPromise_23 : decode cX1_countPromise 23 = .ok (.aload_n 0, 1) := by decide +kernel
theorem dX1_countPromise_24 : decode cX1_countPromise 24 = .ok (.getfield 17, 3) := by decide +kernel
theorem dX1_countPromise_27 : decode cX1_countPromise 27 = .ok (.iload_n 2, 1) := by decide +kernel
theorem dX1_countPromise_28 : decode cX1_countPromise 28 = .ok (.aload_n 0, 1) := by decide +kernel
theorem dX1_countPromise_29 : decode cX1_countPromise 29 = .ok (.getfield 17, 3) := by decide +kernel
theorem dX1_countPromise_32 : decode cX1_countPromise 32 = .ok (.iload_n 2, 1) := by decide +kernel
theorem dX1_countPromise_33 : decode cX1_countPromise 33 = .ok (.aaload, 1) := by decide +kernel
theorem dX1_countPromise_34 : decode cX1_countPromise 34 = .ok (.aload_n 1, 1) := by decide +kernel
theorem dX1_countPromise_35 : decode cX1_countPromise 35 = .ok (.getfield 105, 3) := by decide +kernel
theorem dX1_countPromise_38 : decode cX1_countPromise 38 = .ok (.iload_n 2, 1) := by decide +kernel
theorem dX1_countPromise_39 : decode cX1_countPromise 39 = .ok (.aaload, 1) := by decide +kernel
theorem dX1_countPromise_40 : decode cX1_countPromise 40 = .ok (.invokevirtual 108, 3) := by decide +kernel
theorem dX1_countPromise_43 : decode cX1_countPromise 43 = .ok (.aastore, 1) := by decide +kernel
theorem dX1_countPromise_44 : decode cX1_countPromise 44 = .ok (.iinc 2 1, 3) := by decide +kernel
theorem dX1_countPromise_47 : decode cX1_countPromise 47 = .ok (.goto (-30), 3) := by decide +kernel
theorem dX1_countPromise_50 : decode cX1_countPromise 50 = .ok (.return_, 1) := by decide +kernel
theorem dX1_countYes_0 : decode cX1_countYes 0 = .ok (.aload_n 0, 1) := by decide +kernel
theorem dX1_countYes_1 : decode cX1_countYes 1 = .ok (.aload_n 1, 1) := by decide +kernel
theorem dX1_countYes_2 : decode cX1_countYes 2 = .ok (.invokevirtual 78, 3) := by decide +kernel
theorem dX1_countYes_5 : decode cX1_countYes 5 = .ok (.ifCond .eq 17, 3) := by decide +kernel
theorem dX1_countYes_8 : decode cX1_countYes 8 = .ok (.aload_n 0, 1) := by decide +kernel
theorem dX1_countYes_9 : decode cX1_countYes 9 = .ok (.iconst 0, 1) := by decide +kernel
theorem dX1_countYes_10 : decode cX1_countYes 10 = .ok (.putfield 9, 3) := by decide +kernel
theorem dX1_countYes_13 : decode cX1_countYes 13 = .ok (.aload_n 0, 1) := by decide +kernel
theorem dX1_countYes_14 : decode cX1_countYes 14 = .ok (.aload_n 0, 1) := by decide +kernel
theorem dX1_countYes_15 : decode cX1_countYes 15 = .ok (.getfield 56, 3) := by decide +kernel
theorem dX1_countYes_18 : decode cX1_countYes 18 = .ok (.invokevirtual 62, 3) := by decide +kernel
theorem dX1_countYes_21 : decode cX1_countYes 21 = .ok (.return_, 1) := by decide +kernel
theorem dX1_countYes_22 : decode cX1_countYes 22 = .ok (.aload_n 0, 1) := by decide +kernel
theorem dX1_countYes_23 : decode cX1_countYes 23 = .ok (.dup, 1) := by decide +kernel
theorem dX1_countYes_24 : decode cX1_countYes 24 = .ok (.getfield 53, 3) := by decide +kernel
theorem dX1_countYes_27 : decode cX1_countYes 27 = .ok (.iconst 1, 1) := by decide +kernel
theorem dX1_countYes_28 : decode cX1_countYes 28 = .ok (.aload_n 1, 1) := by decide +kernel
theorem dX1_countYes_29 : decode cX1_countYes 29 = .ok (.getfield 96, 3) := by decide +kernel
theorem dX1_countYes_32 : decode cX1_countYes 32 = .ok (.ishl, 1) := by decide +kernel
theorem dX1_countYes_33 : decode cX1_countYes 33 = .ok (.ior, 1) := by decide +kernel
theorem dX1_countYes_34 : decode cX1_countYes 34 = .ok (.putfield 53, 3) := by decide +kernel
theorem dX1_countYes_37 : decode cX1_countYes 37 = .ok (.return_, 1) := by decide +kernel
theorem dX1_wishWith_0 : decode cX1_wishWith 0 = .ok (.aload_n 0, 1) := by decide +kernel
theorem dX1_wishWith_1 : decode cX1_wishWith 1 = .ok (.getfield 34, 3) := by decide +kernel
theorem dX1_wishWith_4 : decode cX1_wishWith 4 = .ok (.ifnull 13, 3) := by decide +kernel
theorem dX1_wishWith_7 : decode cX1_wishWith 7 = .ok (.aload_n 0, 1) := by decide +kernel
theorem dX1_wishWith_8 : decode cX1_wishWith 8 = .ok (.getfield 34, 3) := by decide +kernel
theorem dX1_wishWith_11 : decode cX1_wishWith 11 = .ok (.getfield 112, 3) := by decide +kernel
theorem dX1_wishWith_14 : decode cX1_wishWith 14 = .ok (.goto 8, 3) := by decide +kernel
theorem dX1_wishWith_17 : decode cX1_wishWith 17 = .ok (.aload_n 0, 1) := by decide +kernel
theorem dX1_wishWith_18 : decode cX1_wishWith 18 = .ok (.aload_n 1, 1) := by decide +kernel
theorem dX1_wishWith_19 : decode cX1_wishWith 19 = .ok (.invokevirtual 117, 3) := by decide +kernel
theorem dX1_wishWith_22 : decode cX1_wishWith 22 = .ok (.istore_n 2, 1) := by decide +kernel
theorem dX1_wishWith_23 : decode cX1_wishWith 23 = .ok (.iload_n 2, 1) := by decide +kernel
theorem dX1_wishWith_24 : decode cX1_wishWith 24 = .ok (.iconst (-1), 1) := by decide +kernel
theorem dX1_wishWith_25 : decode cX1_wishWith 25 = .ok (.if_icmp .ne 5, 3) := by decide +kernel
theorem dX1_wishWith_28 : decode cX1_wishWith 28 = .ok (.aconst_null, 1) := by decide +kernel
theorem dX1_wishWith_29 : decode cX1_wishWith 29 = .ok (.areturn, 1) := by decide +kernel
theorem dX1_wishWith_30 : decode cX1_wishWith 30 = .ok (.aload_n 0, 1) := by decide +kernel
theorem dX1_wishWith_31 : decode cX1_wishWith 31 = .ok (.getfield 17, 3) := by decide +kernel
theorem dX1_wishWith_34 : decode cX1_wishWith 34 = .ok (.iload_n 2, 1) := by decide +kernel
theorem dX1_wishWith_35 : decode cX1_wishWith 35 = .ok (.aaload, 1) := by decide +kernel
theorem dX1_wishWith_36 : decode cX1_wishWith 36 = .ok (.aload_n 1, 1) := by decide +kernel
theorem dX1_wishWith_37 : decode cX1_wishWith 37 = .ok (.getfield 105, 3) := by decide +kernel
theorem dX1_wishWith_40 : decode cX1_wishWith 40 = .ok (.iload_n 2, 1) := by decide +kernel
theorem dX1_wishWith_41 : decode cX1_wishWith 41 = .ok (.aaload, 1) := by decide +kernel
theorem dX1_wishWith_42 : decode cX1_wishWith 42 = .ok (.invokevirtual 108, 3) := by decide +kernel
theorem dX1_wishWith_45 : decode cX1_wishWith 45 = .ok (.astore_n 3, 1) := by decide +kernel
theorem dX1_wishWith_46 : decode cX1_wishWith 46 = .ok (.aload_n 0, 1) := by decide +kernel
theorem dX1_wishWith_47 : decode cX1_wishWith 47 = .ok (.getfield 121, 3) := by decide +kernel
theorem dX1_wishWith_50 : decode cX1_wishWith 50 = .ok (.aload_n 3, 1) := by decide +kernel
theorem dX1_wishWith_51 : decode cX1_wishWith 51 = .ok (.getfield 124, 3) := by decide +kernel
theorem dX1_wishWith_54 : decode cX1_wishWith 54 = .ok (.lconst 1, 1) := by decide +kernel
theorem dX1_wishWith_55 : decode cX1_wishWith 55 = .ok (.ladd, 1) := by decide +kernel
theorem dX1_wishWith_56 : decode cX1_wishWith 56 = .ok (.invokestatic 127, 3) := by decide +kernel
theorem dX1_wishWith_59 : decode cX1_wishWith 59 = .ok (.lstore 4, 2) := by decide +kernel
theorem dX1_wishWith_61 : decode cX1_wishWith 61 = .ok (.lload 4, 2) := by decide +kernel
theorem dX1_wishWith_63 : decode cX1_wishWith 63 = .ok (.ldc2_w 130, 3) := by decide +kernel
theorem dX1_wishWith_66 : decode cX1_wishWith 66 = .ok (.ladd, 1) := by decide +kernel
theorem dX1_wishWith_67 : decode cX1_wishWith 67 = .ok (.lconst 1, 1) := by decide +kernel
theorem dX1_wishWith_68 : decode cX1_wishWith 68 = .ok (.lsub, 1) := by decide +kernel
theorem dX1_wishWith_69 : decode cX1_wishWith 69 = .ok (.lstore 6, 2) := by decide +kernel
theorem dX1_wishWith_71 : decode cX1_wishWith 71 = .ok (.lload 6, 2) := by decide +kernel
theorem dX1_wishWith_73 : decode cX1_wishWith 73 = .ok (.ldc2_w 132, 3) := by decide +kernel
theorem dX1_wishWith_76 : decode cX1_wishWith 76 = .ok (.lcmp, 1) := by decide +kernel
theorem dX1_wishWith_77 : decode cX1_wishWith 77 = .ok (.ifCond .le 5, 3) := by decide +kernel
theorem dX1_wishWith_80 : decode cX1_wishWith 80 = .ok (.aconst_null, 1) := by decide +kernel
theorem dX1_wishWith_81 : decode cX1_wishWith 81 = .ok (.areturn, 1) := by decide +kernel
theorem dX1_wishWith_82 : decode cX1_wishWith 82 = .ok (.aload_n 0, 1) := by decide +kernel
theorem dX1_wishWith_83 : decode cX1_wishWith 83 = .ok (.getfield 34, 3) := by decide +kernel
theorem dX1_wishWith_86 : decode cX1_wishWith 86 = .ok (.ifnull 16, 3) := by decide +kernel
theorem dX1_wishWith_89 : decode cX1_wishWith 89 = .ok (.aload_n 0, 1) := by decide +kernel
theorem dX1_wishWith_90 : decode cX1_wishWith 90 = .ok (.getfield 34, 3) := by decide +kernel
theorem dX1_wishWith_93 : decode cX1_wishWith 93 = .ok (.getfield 134, 3) := by decide +kernel
theorem dX1_wishWith_96 : decode cX1_wishWith 96 = .ok (.getfield 137, 3) := by decide +kernel
theorem dX1_wishWith_99 : decode cX1_wishWith 99 = .ok (.goto 9, 3) := by decide +kernel
theorem dX1_wishWith_102 : decode cX1_wishWith 102 = .ok (.aload_n 3, 1) := by decide +kernel
theorem dX1_wishWith_103 : decode cX1_wishWith 103 = .ok (.getfield 137, 3) := by decide +kernel
theorem dX1_wishWith_106 : decode cX1_wishWith 106 = .ok (.iconst 1, 1) := by decide +kernel
theorem dX1_wishWith_107 : decode cX1_wishWith 107 = .ok (.iadd, 1) := by decide +kernel
theorem dX1_wishWith_108 : decode cX1_wishWith 108 = .ok (.istore 8, 2) := by decide +kernel
theorem dX1_wishWith_110 : decode cX1_wishWith 110 = .ok (.new 113, 3) := by decide +kernel
theorem dX1_wishWith_113 : decode cX1_wishWith 113 = .ok (.dup, 1) := by decide +kernel
theorem dX1_wishWith_114 : decode cX1_wishWith 114 = .ok (.iload_n 2, 1) := by decide +kernel
theorem dX1_wishWith_115 : decode cX1_wishWith 115 = .ok (.lload 4, 2) := by decide +kernel
theorem dX1_wishWith_117 : decode cX1_wishWith 117 = .ok (.new 15, 3) := by decide +kernel
theorem dX1_wishWith_120 : decode cX1_wishWith 120 = .ok (.dup, 1) := by decide +kernel
theorem dX1_wishWith_121 : decode cX1_wishWith 121 = .ok (.aload_n 0, 1) := by decide +kernel
theorem dX1_wishWith_122 : decode cX1_wishWith 122 = .ok (.getfield 50, 3) := by decide +kernel
theorem dX1_wishWith_125 : decode cX1_wishWith 125 = .ok (.aload_n 0, 1) := by decide +kernel
theorem dX1_wishWith_126 : decode cX1_wishWith 126 = .ok (.getfield 27, 3) := by decide +kernel
theorem dX1_wishWith_129 : decode cX1_wishWith 129 = .ok (.iload 8, 2) := by decide +kernel
theorem dX1_wishWith_131 : decode cX1_wishWith 131 = .ok (.lload 6, 2) := by decide +kernel
theorem dX1_wishWith_133 : decode cX1_wishWith 133 = .ok (.invokespecial 140, 3) := by decide +kernel
theorem dX1_wishWith_136 : decode cX1_wishWith 136 = .ok (.invokespecial 143, 3) := by decide +kernel
theorem dX1_wishWith_139 : decode cX1_wishWith 139 = .ok (.areturn, 1) := by decide +kernel
theorem dX1_chooseSeat_0 : decode cX1_chooseSeat 0 = .ok (.aload_n 0, 1) := by decide +kernel
theorem dX1_chooseSeat_1 : decode cX1_chooseSeat 1 = .ok (.aload_n 0, 1) := by decide +kernel
theorem dX1_chooseSeat_2 : decode cX1_chooseSeat 2 = .ok (.getfield 27, 3) := by decide +kernel
theorem dX1_chooseSeat_5 : decode cX1_chooseSeat 5 = .ok (.aload_n 1, 1) := by decide +kernel
theorem dX1_chooseSeat_6 : decode cX1_chooseSeat 6 = .ok (.invokevirtual 146, 3) := by decide +kernel
theorem dX1_chooseSeat_9 : decode cX1_chooseSeat 9 = .ok (.istore_n 2, 1) := by decide +kernel
theorem dX1_chooseSeat_10 : decode cX1_chooseSeat 10 = .ok (.iload_n 2, 1) := by decide +kernel
theorem dX1_chooseSeat_11 : decode cX1_chooseSeat 11 = .ok (.iconst (-1), 1) := by decide +kernel
theorem dX1_chooseSeat_12 : decode cX1_chooseSeat 12 = .ok (.if_icmp .eq 7, 3) := by decide +kernel
theorem dX1_chooseSeat_15 : decode cX1_chooseSeat 15 = .ok (.iload_n 2, 1) := by decide +kernel
theorem dX1_chooseSeat_16 : decode cX1_chooseSeat 16 = .ok (.goto 9, 3) := by decide +kernel
theorem dX1_chooseSeat_19 : decode cX1_chooseSeat 19 = .ok (.aload_n 0, 1) := by decide +kernel
theorem dX1_chooseSeat_20 : decode cX1_chooseSeat 20 = .ok (.iconst (-1), 1) := by decide +kernel
theorem dX1_chooseSeat_21 : decode cX1_chooseSeat 21 = .ok (.aload_n 1, 1) := by decide +kernel
theorem dX1_chooseSeat_22 : decode cX1_chooseSeat 22 = .ok (.invokevirtual 146, 3) := by decide +kernel
theorem dX1_chooseSeat_25 : decode cX1_chooseSeat 25 = .ok (.ireturn, 1) := by decide +kernel
theorem dX1_lowestSeatOf_0 : decode cX1_lowestSeatOf 0 = .ok (.iconst 0, 1) := by decide +kernel
theorem dX1_lowestSeatOf_1 : decode cX1_lowestSeatOf 1 = .ok (.istore_n 3, 1) := by decide +kernel
theorem dX1_lowestSeatOf_2 : decode cX1_lowestSeatOf 2 = .ok (.iload_n 3, 1) := by decide +kernel
theorem dX1_lowestSeatOf_3 : decode cX1_lowestSeatOf 3 = .ok (.bipush 8, 2) := by decide +kernel
theorem dX1_lowestSeatOf_5 : decode cX1_lowestSeatOf 5 = .ok (.if_icmp .ge 33, 3) := by decide +kernel
theorem dX1_lowestSeatOf_8 : decode cX1_lowestSeatOf 8 = .ok (.aload_n 0, 1) := by decide +kernel
theorem dX1_lowestSeatOf_9 : decode cX1_lowestSeatOf 9 = .ok (.getfield 17, 3) := by decide +kernel
theorem dX1_lowestSeatOf_12 : decode cX1_lowestSeatOf 12 = .ok (.iload_n 3, 1) := by decide +kernel
theorem dX1_lowestSeatOf_13 : decode cX1_lowestSeatOf 13 = .ok (.aaload, 1) := by decide +kernel
theorem dX1_lowestSeatOf_14 : decode cX1_lowestSeatOf 14 = .ok (.aload_n 2, 1) := by decide +kernel
theorem dX1_lowestSeatOf_15 : decode cX1_lowestSeatOf 15 = .ok (.getfield 105, 3) := by decide +kernel
theorem dX1_lowestSeatOf_18 : decode cX1_lowestSeatOf 18 = .ok (.iload_n 3, 1) := by decide +kernel
theorem dX1_lowestSeatOf_19 : decode cX1_lowestSeatOf 19 = .ok (.aaload, 1) := by decide +kernel
theorem dX1_lowestSeatOf_20 : decode cX1_lowestSeatOf 20 = .ok (.invokevirtual 108, 3) := by decide +kernel
theorem dX1_lowestSeatOf_23 : decode cX1_lowestSeatOf 23 = .ok (.getfield 150, 3) := by decide +kernel
theorem dX1_lowestSeatOf_26 : decode cX1_lowestSeatOf 26 = .ok (.iload_n 1, 1) := by decide +kernel
theorem dX1_lowestSeatOf_27 : decode cX1_lowestSeatOf 27 = .ok (.if_icmp .ne 5, 3) := by decide +kernel
theorem dX1_lowestSeatOf_30 : decode cX1_lowestSeatOf 30 = .ok (.iload_n 3, 1) := by decide +kernel
theorem dX1_lowestSeatOf_31 : decode cX1_lowestSeatOf 31 = .ok (.ireturn, 1) := by decide +kernel
theorem dX1_lowestSeatOf_32 : decode cX1_lowestSeatOf 32 = .ok (.iinc 3 1, 3) := by decide +kernel
theorem dX1_lowestSeatOf_35 : decode cX1_lowestSeatOf 35 = .ok (.goto (-33), 3) := by decide +kernel
theorem dX1_lowestSeatOf_38 : decode cX1_lowestSeatOf 38 = .ok (.iconst (-1), 1) := by decide +kernel
theorem dX1_lowestSeatOf_39 : decode cX1_lowestSeatOf 39 = .ok (.ireturn, 1) := by decide +kernel
theorem dX1_give_0 : decode cX1_give 0 = .ok (.aload_n 0, 1) := by decide +kernel
theorem dX1_give_1 : decode cX1_give 1 = .ok (.getfield 34, 3) := by decide +kernel
theorem dX1_give_4 : decode cX1_give 4 = .ok (.ifnonnull 5, 3) := by decide +kernel
theorem dX1_give_7 : decode cX1_give 7 = .ok (.lconst 0, 1) := by decide +kernel
theorem dX1_give_8 : decode cX1_give 8 = .ok (.lreturn, 1) := by decide +kernel
theorem dX1_give_9 : decode cX1_give 9 = .ok (.aload_n 0, 1) := by decide +kernel
