theorem dX6_batch_18 : decode cX6_batch 18 = .ok (.athrow, 1) := by decide +kernel
theorem dX6_batch_19 : decode cX6_batch 19 = .ok (.iload_n 2, 1) := by decide +kernel
theorem dX6_batch_20 : decode cX6_batch 20 = .ok (.iconst 1, 1) := by decide +kernel
theorem dX6_batch_21 : decode cX6_batch 21 = .ok (.if_icmp .lt 10, 3) := by decide +kernel
theorem dX6_batch_24 : decode cX6_batch 24 = .ok (.iload_n 2, 1) := by decide +kernel
theorem dX6_batch_25 : decode cX6_batch 25 = .ok (.sipush 1024, 3) := by decide +kernel
theorem dX6_batch_28 : decode cX6_batch 28 = .ok (.if_icmp .le 13, 3) := by decide +kernel
theorem dX6_batch_31 : decode cX6_batch 31 = .ok (.new 56, 3) := by decide +kernel
theorem dX6_batch_34 : decode cX6_batch 34 = .ok (.dup, 1) := by decide +kernel
theorem dX6_batch_35 : decode cX6_batch 35 = .ok (.ldc 171, 2) := by decide +kernel
theorem dX6_batch_37 : decode cX6_batch 37 = .ok (.invokespecial 60, 3) := by decide +kernel
theorem dX6_batch_40 : decode cX6_batch 40 = .ok (.athrow, 1) := by decide +kernel
theorem dX6_batch_41 : decode cX6_batch 41 = .ok (.aload_n 0, 1) := by decide +kernel
theorem dX6_batch_42 : decode cX6_batch 42 = .ok (.getfield 11, 3) := by decide +kernel
theorem dX6_batch_45 : decode cX6_batch 45 = .ok (.iload_n 1, 1) := by decide +kernel
theorem dX6_batch_46 : decode cX6_batch 46 = .ok (.aaload, 1) := by decide +kernel
theorem dX6_batch_47 : decode cX6_batch 47 = .ok (.iload_n 2, 1) := by decide +kernel
theorem dX6_batch_48 : decode cX6_batch 48 = .ok (.invokevirtual 168, 3) := by decide +kernel
theorem dX6_batch_51 : decode cX6_batch 51 = .ok (.lreturn, 1) := by decide +kernel
theorem dX6_seat_0 : decode cX6_seat 0 = .ok (.iload_n 1, 1) := by decide +kernel
theorem dX6_seat_1 : decode cX6_seat 1 = .ok (.bipush 8, 2) := by decide +kernel
theorem dX6_seat_3 : decode cX6_seat 3 = .ok (.invokestatic 43, 3) := by decide +kernel
theorem dX6_seat_6 : decode cX6_seat 6 = .ok (.ifCond .eq 11, 3) := by decide +kernel
theorem dX6_seat_9 : decode cX6_seat 9 = .ok (.iload_n 2, 1) := by decide +kernel
theorem dX6_seat_10 : decode cX6_seat 10 = .ok (.iconst 3, 1) := by decide +kernel
theorem dX6_seat_11 : decode cX6_seat 11 = .ok (.invokestatic 43, 3) := by decide +kernel
theorem dX6_seat_14 : decode cX6_seat 14 = .ok (.ifCond .ne 13, 3) := by decide +kernel
theorem dX6_seat_17 : decode cX6_seat 17 = .ok (.new 47, 3) := by decide +kernel
theorem dX6_seat_20 : decode cX6_seat 20 = .ok (.dup, 1) := by decide +kernel
theorem dX6_seat_21 : decode cX6_seat 21 = .ok (.ldc 173, 2) := by decide +kernel
theorem dX6_seat_23 : decode cX6_seat 23 = .ok (.invokespecial 51, 3) := by decide +kernel
theorem dX6_seat_26 : decode cX6_seat 26 = .ok (.athrow, 1) := by decide +kernel
theorem dX6_seat_27 : decode cX6_seat 27 = .ok (.aload_n 0, 1) := by decide +kernel
theorem dX6_seat_28 : decode cX6_seat 28 = .ok (.invokevirtual 175, 3) := by decide +kernel
theorem dX6_seat_31 : decode cX6_seat 31 = .ok (.iconst 3, 1) := by decide +kernel
theorem dX6_seat_32 : decode cX6_seat 32 = .ok (.if_icmp .ge 7, 3) := by decide +kernel
theorem dX6_seat_35 : decode cX6_seat 35 = .ok (.ldc2_w 179, 3) := by decide +kernel
theorem dX6_seat_38 : decode cX6_seat 38 = .ok (.lreturn, 1) := by decide +kernel
theorem dX6_seat_39 : decode cX6_seat 39 = .ok (.aload_n 0, 1) := by decide +kernel
theorem dX6_seat_40 : decode cX6_seat 40 = .ok (.iload_n 1, 1) := by decide +kernel
theorem dX6_seat_41 : decode cX6_seat 41 = .ok (.invokevirtual 181, 3) := by decide +kernel
theorem dX6_seat_44 : decode cX6_seat 44 = .ok (.astore_n 3, 1) := by decide +kernel
theorem dX6_seat_45 : decode cX6_seat 45 = .ok (.aload_n 3, 1) := by decide +kernel
theorem dX6_seat_46 : decode cX6_seat 46 = .ok (.getfield 185, 3) := by decide +kernel
theorem dX6_seat_49 : decode cX6_seat 49 = .ok (.iconst (-1), 1) := by decide +kernel
theorem dX6_seat_50 : decode cX6_seat 50 = .ok (.if_icmp .ne 7, 3) := by decide +kernel
theorem dX6_seat_53 : decode cX6_seat 53 = .ok (.ldc2_w 179, 3) := by decide +kernel
theorem dX6_seat_56 : decode cX6_seat 56 = .ok (.lreturn, 1) := by decide +kernel
theorem dX6_seat_57 : decode cX6_seat 57 = .ok (.iload_n 2, 1) := by decide +kernel
theorem dX6_seat_58 : decode cX6_seat 58 = .ok (.lookupswitch 38 #[(0, 26), (1, 32)], 26) := by decide +kernel
theorem dX6_seat_84 : decode cX6_seat 84 = .ok (.aload_n 3, 1) := by decide +kernel
theorem dX6_seat_85 : decode cX6_seat 85 = .ok (.getfield 185, 3) := by decide +kernel
theorem dX6_seat_88 : decode cX6_seat 88 = .ok (.i2l, 1) := by decide +kernel
theorem dX6_seat_89 : decode cX6_seat 89 = .ok (.lreturn, 1) := by decide +kernel
theorem dX6_seat_90 : decode cX6_seat 90 = .ok (.aload_n 3, 1) := by decide +kernel
theorem dX6_seat_91 : decode cX6_seat 91 = .ok (.getfield 188, 3) := by decide +kernel
theorem dX6_seat_94 : decode cX6_seat 94 = .ok (.i2l, 1) := by decide +kernel
theorem dX6_seat_95 : decode cX6_seat 95 = .ok (.lreturn, 1) := by decide +kernel
theorem dX6_seat_96 : decode cX6_seat 96 = .ok (.aload_n 3, 1) := by decide +kernel
theorem dX6_seat_97 : decode cX6_seat 97 = .ok (.getfield 191, 3) := by decide +kernel
theorem dX6_seat_100 : decode cX6_seat 100 = .ok (.lreturn, 1) := by decide +kernel
theorem dX6_part_0 : decode cX6_part 0 = .ok (.lload_n 1, 1) := by decide +kernel
theorem dX6_part_1 : decode cX6_part 1 = .ok (.lconst 0, 1) := by decide +kernel
theorem dX6_part_2 : decode cX6_part 2 = .ok (.lcmp, 1) := by decide +kernel
theorem dX6_part_3 : decode cX6_part 3 = .ok (.ifCond .lt 11, 3) := by decide +kernel
theorem dX6_part_6 : decode cX6_part 6 = .ok (.iload_n 3, 1) := by decide +kernel
theorem dX6_part_7 : decode cX6_part 7 = .ok (.iconst 3, 1) := by decide +kernel
theorem dX6_part_8 : decode cX6_part 8 = .ok (.invokestatic 43, 3) := by decide +kernel
theorem dX6_part_11 : decode cX6_part 11 = .ok (.ifCond .ne 13, 3) := by decide +kernel
theorem dX6_part_14 : decode cX6_part 14 = .ok (.new 56, 3) := by decide +kernel
theorem dX6_part_17 : decode cX6_part 17 = .ok (.dup, 1) := by decide +kernel
theorem dX6_part_18 : decode cX6_part 18 = .ok (.ldc 194, 2) := by decide +kernel
theorem dX6_part_20 : decode cX6_part 20 = .ok (.invokespecial 60, 3) := by decide +kernel
theorem dX6_part_23 : decode cX6_part 23 = .ok (.athrow, 1) := by decide +kernel
theorem dX6_part_24 : decode cX6_part 24 = .ok (.iload_n 3, 1) := by decide +kernel
theorem dX6_part_25 : decode cX6_part 25 = .ok (.lookupswitch 41 #[(0, 27), (1, 32)], 27) := by decide +kernel
theorem dX6_part_52 : decode cX6_part 52 = .ok (.lload_n 1, 1) := by decide +kernel
theorem dX6_part_53 : decode cX6_part 53 = .ok (.bipush 23, 2) := by decide +kernel
theorem dX6_part_55 : decode cX6_part 55 = .ok (.lshr, 1) := by decide +kernel
theorem dX6_part_56 : decode cX6_part 56 = .ok (.lreturn, 1) := by decide +kernel
theorem dX6_part_57 : decode cX6_part 57 = .ok (.lload_n 1, 1) := by decide +kernel
theorem dX6_part_58 : decode cX6_part 58 = .ok (.bipush 10, 2) := by decide +kernel
theorem dX6_part_60 : decode cX6_part 60 = .ok (.lshr, 1) := by decide +kernel
theorem dX6_part_61 : decode cX6_part 61 = .ok (.ldc2_w 196, 3) := by decide +kernel
theorem dX6_part_64 : decode cX6_part 64 = .ok (.land, 1) := by decide +kernel
theorem dX6_part_65 : decode cX6_part 65 = .ok (.lreturn, 1) := by decide +kernel
theorem dX6_part_66 : decode cX6_part 66 = .ok (.lload_n 1, 1) := by decide +kernel
theorem dX6_part_67 : decode cX6_part 67 = .ok (.ldc2_w 198, 3) := by decide +kernel
theorem dX6_part_70 : decode cX6_part 70 = .ok (.land, 1) := by decide +kernel
theorem dX6_part_71 : decode cX6_part 71 = .ok (.lreturn, 1) := by decide +kernel
theorem dX6_isWithin_0 : decode cX6_isWithin 0 = .ok (.iload_n 0, 1) := by decide +kernel
theorem dX6_isWithin_1 : decode cX6_isWithin 1 = .ok (.ifCond .lt 12, 3) := by decide +kernel
theorem dX6_isWithin_4 : decode cX6_isWithin 4 = .ok (.iload_n 0, 1) := by decide +kernel
theorem dX6_isWithin_5 : decode cX6_isWithin 5 = .ok (.iload_n 1, 1) := by decide +kernel
theorem dX6_isWithin_6 : decode cX6_isWithin 6 = .ok (.if_icmp .ge 7, 3) := by decide +kernel
theorem dX6_isWithin_9 : decode cX6_isWithin 9 = .ok (.iconst 1, 1) := by decide +kernel
theorem dX6_isWithin_10 : decode cX6_isWithin 10 = .ok (.goto 4, 3) := by decide +kernel
theorem dX6_isWithin_13 : decode cX6_isWithin 13 = .ok (.iconst 0, 1) := by decide +kernel
theorem dX6_isWithin_14 : decode cX6_isWithin 14 = .ok (.ireturn, 1) := by decide +kernel
theorem dX6_attempt_0 : decode cX6_attempt 0 = .ok (.aload_n 1, 1) := by decide +kernel
theorem dX6_attempt_1 : decode cX6_attempt 1 = .ok (.invokevirtual 200, 3) := by decide +kernel
theorem dX6_attempt_4 : decode cX6_attempt 4 = .ok (.iconst 0, 1) := by decide +kernel
theorem dX6_attempt_5 : decode cX6_attempt 5 = .ok (.istore_n 2, 1) := by decide +kernel
theorem dX6_attempt_6 : decode cX6_attempt 6 = .ok (.iload_n 2, 1) := by decide +kernel
theorem dX6_attempt_7 : decode cX6_attempt 7 = .ok (.iconst 5, 1) := by decide +kernel
theorem dX6_attempt_8 : decode cX6_attempt 8 = .ok (.if_icmp .ge 27, 3) := by decide +kernel
theorem dX6_attempt_11 : decode cX6_attempt 11 = .ok (.aload_n 0, 1) := by decide +kernel
theorem dX6_attempt_12 : decode cX6_attempt 12 = .ok (.getfield 35, 3) := by decide +kernel
theorem dX6_attempt_15 : decode cX6_attempt 15 = .ok (.iconst 0, 1) := by decide +kernel
theorem dX6_attempt_16 : decode cX6_attempt 16 = .ok (.aload_n 1, 1) := by decide +kernel
theorem dX6_attempt_17 : decode cX6_attempt 17 = .ok (.getfield 203, 3) := by decide +kernel
theorem dX6_attempt_20 : decode cX6_attempt 20 = .ok (.iload_n 2, 1) := by decide +kernel
theorem dX6_attempt_21 : decode cX6_attempt 21 = .ok (.aload_n 1, 1) := by decide +kernel
theorem dX6_attempt_22 : decode cX6_attempt 22 = .ok (.getfield 206, 3) := by decide +kernel
theorem dX6_attempt_25 : decode cX6_attempt 25 = .ok (.invokevirtual 207, 3) := by decide +kernel
theorem dX6_attempt_28 : decode cX6_attempt 28 = .ok (.pop, 1) := by decide +kernel
theorem dX6_attempt_29 : decode cX6_attempt 29 = .ok (.iinc 2 1, 3) := by decide +kernel
theorem dX6_attempt_32 : decode cX6_attempt 32 = .ok (.goto (-26), 3) := by decide +kernel
theorem dX6_attempt_35 : decode cX6_attempt 35 = .ok (.return_, 1) := by decide +kernel
theorem dX6_handToNode_0 : decode cX6_handToNode 0 = .ok (.aload_n 0, 1) := by decide +kernel
theorem dX6_handToNode_1 : decode cX6_handToNode 1 = .ok (.getfield 17, 3) := by decide +kernel
theorem dX6_handToNode_4 : decode cX6_handToNode 4 = .ok (.aload_n 1, 1) := by decide +kernel
theorem dX6_handToNode_5 : decode cX6_handToNode 5 = .ok (.getfield 144, 3) := by decide +kernel
theorem dX6_handToNode_8 : decode cX6_handToNode 8 = .ok (.aaload, 1) := by decide +kernel
theorem dX6_handToNode_9 : decode cX6_handToNode 9 = .ok (.astore_n 2, 1) := by decide +kernel
theorem dX6_handToNode_10 : decode cX6_handToNode 10 = .ok (.aload_n 2, 1) := by decide +kernel
theorem dX6_handToNode_11 : decode cX6_handToNode 11 = .ok (.getfield 93, 3) := by decide +kernel
theorem dX6_handToNode_14 : decode cX6_handToNode 14 = .ok (.ifCond .ne 5, 3) := by decide +kernel
theorem dX6_handToNode_17 : decode cX6_handToNode 17 = .ok (.iconst 0, 1) := by decide +kernel
theorem dX6_handToNode_18 : decode cX6_handToNode 18 = .ok (.ireturn, 1) := by decide +kernel
theorem dX6_handToNode_19 : decode cX6_handToNode 19 = .ok (.aload_n 1, 1) := by decide +kernel
theorem dX6_handToNode_20 : decode cX6_handToNode 20 = .ok (.getfield 141, 3) := by decide +kernel
theorem dX6_handToNode_23 : decode cX6_handToNode 23 = .ok (.ifCond .ne 15, 3) := by decide +kernel
theorem dX6_handToNode_26 : decode cX6_handToNode 26 = .ok (.aload_n 2, 1) := by decide +kernel
theorem dX6_handToNode_27 : decode cX6_handToNode 27 = .ok (.aload_n 1, 1) := by decide +kernel
theorem dX6_handToNode_28 : decode cX6_handToNode 28 = .ok (.aload_n 0, 1) := by decide +kernel
theorem dX6_handToNode_29 : decode cX6_handToNode 29 = .ok (.getfield 35, 3) := by decide +kernel
theorem dX6_handToNode_32 : decode cX6_handToNode 32 = .ok (.invokevirtual 211, 3) := by decide +kernel
theorem dX6_handToNode_35 : decode cX6_handToNode 35 = .ok (.goto 12, 3) := by decide +kernel
theorem dX6_handToNode_38 : decode cX6_handToNode 38 = .ok (.aload_n 2, 1) := by decide +kernel
theorem dX6_handToNode_39 : decode cX6_handToNode 39 = .ok (.aload_n 1, 1) := by decide +kernel
theorem dX6_handToNode_40 : decode cX6_handToNode 40 = .ok (.aload_n 0, 1) := by decide +kernel
theorem dX6_handToNode_41 : decode cX6_handToNode 41 = .ok (.getfield 35, 3) := by decide +kernel
theorem dX6_handToNode_44 : decode cX6_handToNode 44 = .ok (.invokevirtual 215, 3) := by decide +kernel
theorem dX6_handToNode_47 : decode cX6_handToNode 47 = .ok (.iconst 1, 1) := by decide +kernel
theorem dX6_handToNode_48 : decode cX6_handToNode 48 = .ok (.ireturn, 1) := by decide +kernel
theorem dX6_decide_0 : decode cX6_decide 0 = .ok (.aload_n 1, 1) := by decide +kernel
theorem dX6_decide_1 : decode cX6_decide 1 = .ok (.aload_n 0, 1) := by decide +kernel
theorem dX6_decide_2 : decode cX6_decide 2 = .ok (.getfield 35, 3) := by decide +kernel
theorem dX6_decide_5 : decode cX6_decide 5 = .ok (.iload_n 2, 1) := by decide +kernel
theorem dX6_decide_6 : decode cX6_decide 6 = .ok (.invokevirtual 102, 3) := by decide +kernel
theorem dX6_decide_9 : decode cX6_decide 9 = .ok (.invokevirtual 218, 3) := by decide +kernel
theorem dX6_decide_12 : decode cX6_decide 12 = .ok (.astore_n 3, 1) := by decide +kernel
theorem dX6_decide_13 : decode cX6_decide 13 = .ok (.aload_n 3, 1) := by decide +kernel
theorem dX6_decide_14 : decode cX6_decide 14 = .ok (.ifnull 24, 3) := by decide +kernel
theorem dX6_decide_17 : decode cX6_decide 17 = .ok (.aload_n 0, 1) := by decide +kernel
theorem dX6_decide_18 : decode cX6_decide 18 = .ok (.getfield 35, 3) := by decide +kernel
theorem dX6_decide_21 : decode cX6_decide 21 = .ok (.iconst 4, 1) := by decide +kernel
theorem dX6_decide_22 : decode cX6_decide 22 = .ok (.invokevirtual 73, 3) := by decide +kernel
theorem dX6_decide_25 : decode cX6_decide 25 = .ok (.ifCond .ne 13, 3) := by decide +kernel
theorem dX6_decide_28 : decode cX6_decide 28 = .ok (.new 77, 3) := by decide +kernel
theorem dX6_decide_31 : decode cX6_decide 31 = .ok (.dup, 1) := by decide +kernel
theorem dX6_decide_32 : decode cX6_decide 32 = .ok (.ldc 134, 2) := by decide +kernel
theorem dX6_decide_34 : decode cX6_decide 34 = .ok (.invokespecial 81, 3) := by decide +kernel
theorem dX6_decide_37 : decode cX6_decide 37 = .ok (.athrow, 1) := by decide +kernel
theorem dX6_decide_38 : decode cX6_decide 38 = .ok (.aload_n 0, 1) := by decide +kernel
theorem dX6_decide_39 : decode cX6_decide 39 = .ok (.getfield 35, 3) := by decide +kernel
theorem dX6_decide_42 : decode cX6_decide 42 = .ok (.iload_n 2, 1) := by decide +kernel
theorem dX6_decide_43 : decode cX6_decide 43 = .ok (.invokevirtual 111, 3) := by decide +kernel
theorem dX6_decide_46 : decode cX6_decide 46 = .ok (.aload_n 3, 1) := by decide +kernel
theorem dX6_decide_47 : decode cX6_decide 47 = .ok (.ifnonnull 9, 3) := by decide +kernel
theorem dX6_decide_50 : decode cX6_decide 50 = .ok (.aload_n 1, 1) := by decide +kernel
theorem dX6_decide_51 : decode cX6_decide 51 = .ok (.invokevirtual 222, 3) := by decide +kernel
theorem dX6_decide_54 : decode cX6_decide 54 = .ok (.iconst 0, 1) := by decide +kernel
theorem dX6_decide_55 : decode cX6_decide 55 = .ok (.ireturn, 1) := by decide +kernel
theorem dX6_decide_56 : decode cX6_decide 56 = .ok (.aload_n 1, 1) := by decide +kernel
theorem dX6_decide_57 : decode cX6_decide 57 = .ok (.aload_n 3, 1) := by decide +kernel
theorem dX6_decide_58 : decode cX6_decide 58 = .ok (.invokevirtual 225, 3) := by decide +kernel
theorem dX6_decide_61 : decode cX6_decide 61 = .ok (.iconst 0, 1) := by decide +kernel
theorem dX6_decide_62 : decode cX6_decide 62 = .ok (.istore 4, 2) := by decide +kernel
theorem dX6_decide_64 : decode cX6_decide 64 = .ok (.iload 4, 2) := by decide +kernel
theorem dX6_decide_66 : decode cX6_decide 66 = .ok (.iconst 5, 1) := by decide +kernel
theorem dX6_decide_67 : decode cX6_decide 67 = .ok (.if_icmp .ge 47, 3) := by decide +kernel
theorem dX6_decide_70 : decode cX6_decide 70 = .ok (.aload_n 0, 1) := by decide +kernel
theorem dX6_decide_71 : decode cX6_decide 71 = .ok (.getfield 35, 3) := by decide +kernel
theorem dX6_decide_74 : decode cX6_decide 74 = .ok (.iconst 2, 1) := by decide +kernel
theorem dX6_decide_75 : decode cX6_decide 75 = .ok (.aload_n 1, 1) := by decide +kernel
theorem dX6_decide_76 : decode cX6_decide 76 = .ok (.getfield 203, 3) := by decide +kernel
theorem dX6_decide_79 : decode cX6_decide 79 = .ok (.iload 4, 2) := by decide +kernel
theorem dX6_decide_81 : decode cX6_decide 81 = .ok (.aload_n 1, 1) := by decide +kernel
theorem dX6_decide_82 : decode cX6_decide 82 = .ok (.getfield 206, 3) := by decide +kernel
theorem dX6_decide_85 : decode cX6_decide 85 = .ok (.invokevirtual 207, 3) := by decide +kernel
theorem dX6_decide_88 : decode cX6_decide 88 = .ok (.astore 5, 2) := by decide +kernel
theorem dX6_decide_90 : decode cX6_decide 90 = .ok (.aload 5, 2) := by decide +kernel
theorem dX6_decide_92 : decode cX6_decide 92 = .ok (.aload_n 3, 1) := by decide +kernel
theorem dX6_decide_93 : decode cX6_decide 93 = .ok (.getfield 229, 3) := by decide +kernel
theorem dX6_decide_96 : decode cX6_decide 96 = .ok (.putfield 150, 3) := by decide +kernel
theorem dX6_decide_99 : decode cX6_decide 99 = .ok (.aload 5, 2) := by decide +kernel
theorem dX6_decide_101 : decode cX6_decide 101 = .ok (.aload_n 3, 1) := by decide +kernel
theorem dX6_decide_102 : decode cX6_decide 102 = .ok (.getfield 232, 3) := by decide +kernel
theorem dX6_decide_105 : decode cX6_decide 105 = .ok (.putfield 235, 3) := by decide +kernel
theorem dX6_decide_108 : decode cX6_decide 108 = .ok (.iinc 4 1, 3) := by decide +kernel
theorem dX6_decide_111 : decode cX6_decide 111 = .ok (.goto (-47), 3) := by decide +kernel
theorem dX6_decide_114 : decode cX6_decide 114 = .ok (.iconst 5, 1) := by decide +kernel
theorem dX6_decide_115 : decode cX6_decide 115 = .ok (.ireturn, 1) := by decide +kernel
theorem dX6_nodesUp_0 : decode cX6_nodesUp 0 = .ok (.iconst 0, 1) := by decide +kernel
theorem dX6_nodesUp_1 : decode cX6_nodesUp 1 = .ok (.istore_n 1, 1) := by decide +kernel
theorem dX6_nodesUp_2 : decode cX6_nodesUp 2 = .ok (.iconst 0, 1) := by decide +kernel
theorem dX6_nodesUp_3 : decode cX6_nodesUp 3 = .ok (.istore_n 2, 1) := by decide +kernel
theorem dX6_nodesUp_4 : decode cX6_nodesUp 4 = .ok (.iload_n 2, 1) := by decide +kernel
theorem dX6_nodesUp_5 : decode cX6_nodesUp 5 = .ok (.iconst 5, 1) := by decide +kernel
theorem dX6_nodesUp_6 : decode cX6_nodesUp 6 = .ok (.if_icmp .ge 24, 3) := by decide +kernel
theorem dX6_nodesUp_9 : decode cX6_nodesUp 9 = .ok (.aload_n 0, 1) := by decide +kernel
theorem dX6_nodesUp_10 : decode cX6_nodesUp 10 = .ok (.getfield 17, 3) := by decide +kernel
theorem dX6_nodesUp_13 : decode cX6_nodesUp 13 = .ok (.iload_n 2, 1) := by decide +kernel
theorem dX6_nodesUp_14 : decode cX6_nodesUp 14 = .ok (.aaload, 1) := by decide +kernel
theorem dX6_nodesUp_15 : decode cX6_nodesUp 15 = .ok (.getfield 93, 3) := by decide +kernel
theorem dX6_nodesUp_18 : decode cX6_nodesUp 18 = .ok (.ifCond .eq 6, 3) := by decide +kernel
theorem dX6_nodesUp_21 : decode cX6_nodesUp 21 = .ok (.iinc 1 1, 3) := by decide +kernel
theorem dX6_nodesUp_24 : decode cX6_nodesUp 24 = .ok (.iinc 2 1, 3) := by decide +kernel
theorem dX6_nodesUp_27 : decode cX6_nodesUp 27 = .ok (.goto (-23), 3) := by decide +kernel
theorem dX6_nodesUp_30 : decode cX6_nodesUp 30 = .ok (.iload_n 1, 1) := by decide +kernel
theorem dX6_nodesUp_31 : decode cX6_nodesUp 31 = .ok (.ireturn, 1) := by decide +kernel
theorem dX6_newestRow_0 : decode cX6_newestRow 0 = .ok (.aload_n 0, 1) := by decide +kernel
theorem dX6_newestRow_1 : decode cX6_newestRow 1 = .ok (.getfield 26, 3) := by decide +kernel
theorem dX6_newestRow_4 : decode cX6_newestRow 4 = .ok (.astore_n 2, 1) := by decide +kernel
theorem dX6_newestRow_5 : decode cX6_newestRow 5 = .ok (.iconst 0, 1) := by decide +kernel
theorem dX6_newestRow_6 : decode cX6_newestRow 6 = .ok (.istore_n 3, 1) := by decide +kernel
theorem dX6_newestRow_7 : decode cX6_newestRow 7 = .ok (.iload_n 3, 1) := by decide +kernel
theorem dX6_newestRow_8 : decode cX6_newestRow 8 = .ok (.iconst 5, 1) := by decide +kernel
theorem dX6_newestRow_9 : decode cX6_newestRow 9 = .ok (.if_icmp .ge 37, 3) := by decide +kernel
theorem dX6_newestRow_12 : decode cX6_newestRow 12 = .ok (.aload_n 0, 1) := by decide +kernel
theorem dX6_newestRow_13 : decode cX6_newestRow 13 = .ok (.getfield 17, 3) := by decide +kernel
theorem dX6_newestRow_16 : decode cX6_newestRow 16 = .ok (.iload_n 3, 1) := by decide +kernel
theorem dX6_newestRow_17 : decode cX6_newestRow 17 = .ok (.aaload, 1) := by decide +kernel
theorem dX6_newestRow_18 : decode cX6_newestRow 18 = .ok (.getfield 93, 3) := by decide +kernel
theorem dX6_newestRow_21 : decode cX6_newestRow 21 = .ok (.ifCond .eq 19, 3) := by decide +kernel
theorem dX6_newestRow_24 : decode cX6_newestRow 24 = .ok (.aload_n 2, 1) := by decide +kernel
theorem dX6_newestRow_25 : decode cX6_newestRow 25 = .ok (.aload_n 0, 1) := by decide +kernel
theorem dX6_newestRow_26 : decode cX6_newestRow 26 = .ok (.getfield 17, 3) := by decide +kernel
theorem dX6_newestRow_29 : decode cX6_newestRow 29 = .ok (.iload_n 3, 1) := by decide +kernel
theorem dX6_newestRow_30 : decode cX6_newestRow 30 = .ok (.aaload, 1) := by decide +kernel
theorem dX6_newestRow_31 : decode cX6_newestRow 31 = .ok (.getfield 236, 3) := by decide +kernel
theorem dX6_newestRow_34 : decode cX6_newestRow 34 = .ok (.iload_n 1, 1) := by decide +kernel
theorem dX6_newestRow_35 : decode cX6_newestRow 35 = .ok (.aaload, 1) := by decide +kernel
theorem dX6_newestRow_36 : decode cX6_newestRow 36 = .ok (.invokevirtual 240, 3) := by decide +kernel
theorem dX6_newestRow_39 : decode cX6_newestRow 39 = .ok (.astore_n 2, 1) := by decide +kernel
theorem dX6_newestRow_40 : decode cX6_newestRow 40 = .ok (.iinc 3 1, 3) := by decide +kernel
theorem dX6_newestRow_43 : decode cX6_newestRow 43 = .ok (.goto (-36), 3) := by decide +kernel
theorem dX6_newestRow_46 : decode cX6_newestRow 46 = .ok (.aload_n 2, 1) := by decide +kernel
theorem dX6_newestRow_47 : decode cX6_newestRow 47 = .ok (.areturn, 1) := by decide +kernel
theorem dX7_init_0 : decode cX7_init 0 = .ok (.aload_n 0, 1) := by decide +kernel
theorem dX7_init_1 : decode cX7_init 1 = .ok (.invokespecial 1, 3) := by decide +kernel
theorem dX7_init_4 : decode cX7_init 4 = .ok (.aload_n 0, 1) := by decide +kernel
theorem dX7_init_5 : decode cX7_init 5 = .ok (.bipush 100, 2) := by decide +kernel
theorem dX7_init_7 : decode cX7_init 7 = .ok (.newarray .int, 2) := by decide +kernel
theorem dX7_init_9 : decode cX7_init 9 = .ok (.putfield 7, 3) := by decide +kernel
theorem dX7_init_12 : decode cX7_init 12 = .ok (.aload_n 0, 1) := by decide +kernel
theorem dX7_init_13 : decode cX7_init 13 = .ok (.bipush 100, 2) := by decide +kernel
theorem dX7_init_15 : decode cX7_init 15 = .ok (.newarray .int, 2) := by decide +kernel
theorem dX7_init_17 : decode cX7_init 17 = .ok (.putfield 13, 3) := by decide +kernel
theorem dX7_init_20 : decode cX7_init 20 = .ok (.aload_n 0, 1) := by decide +kernel
theorem dX7_init_21 : decode cX7_init 21 = .ok (.bipush 100, 2) := by decide +kernel
theorem dX7_init_23 : decode cX7_init 23 = .ok (.newarray .int, 2) := by decide +kernel
theorem dX7_init_25 : decode cX7_init 25 = .ok (.putfield 16, 3) := by decide +kernel
theorem dX7_init_28 : decode cX7_init 28 = .ok (.aload_n 0, 1) := by decide +kernel
theorem dX7_init_29 : decode cX7_init 29 = .ok (.bipush 100, 2) := by decide +kernel
theorem dX7_init_31 : decode cX7_init 31 = .ok (.newarray .int, 2) := by decide +kernel
theorem dX7_init_33 : decode cX7_init 33 = .ok (.putfield 19, 3) := by decide +kernel
theorem dX7_init_36 : decode cX7_init 36 = .ok (.aload_n 0, 1) := by decide +kernel
theorem dX7_init_37 : decode cX7_init 37 = .ok (.bipush 100, 2) := by decide +kernel
theorem dX7_init_39 : decode cX7_init 39 = .ok (.newarray .int, 2) := by decide +kernel
theorem dX7_init_41 : decode cX7_init 41 = .ok (.putfield 22, 3) := by decide +kernel
theorem dX7_init_44 : decode cX7_init 44 = .ok (.aload_n 0, 1) := by decide +kernel
theorem dX7_init_45 : decode cX7_init 45 = .ok (.bipush 100, 2) := by decide +kernel
theorem dX7_init_47 : decode cX7_init 47 = .ok (.newarray .int, 2) := by decide +kernel
theorem dX7_init_49 : decode cX7_init 49 = .ok (.putfield 25, 3) := by decide +kernel
theorem dX7_init_52 : decode cX7_init 52 = .ok (.aload_n 0, 1) := by decide +kernel
theorem dX7_init_53 : decode cX7_init 53 = .ok (.bipush 100, 2) := by decide +kernel
theorem dX7_init_55 : decode cX7_init 55 = .ok (.newarray .long, 2) := by decide +kernel
theorem dX7_init_57 : decode cX7_init 57 = .ok (.putfield 28, 3) := by decide +kernel
theorem dX7_init_60 : decode cX7_init 60 = .ok (.aload_n 0, 1) := by decide +kernel
theorem dX7_init_61 : decode cX7_init 61 = .ok (.bipush 100, 2) := by decide +kernel
theorem dX7_init_63 : decode cX7_init 63 = .ok (.newarray .int, 2) := by decide +kernel
theorem dX7_init_65 : decode cX7_init 65 = .ok (.putfield 32, 3) := by decide +kernel
theorem dX7_init_68 : decode cX7_init 68 = .ok (.aload_n 0, 1) := by decide +kernel
theorem dX7_init_69 : decode cX7_init 69 = .ok (.sipush 600, 3) := by decide +kernel
theorem dX7_init_72 : decode cX7_init 72 = .ok (.newarray .int, 2) := by decide +kernel
theorem dX7_init_74 : decode cX7_init 74 = .ok (.putfield 35, 3) := by decide +kernel
theorem dX7_init_77 : decode cX7_init 77 = .ok (.aload_n 0, 1) := by decide +kernel
theorem dX7_init_78 : decode cX7_init 78 = .ok (.sipush 600, 3) := by decide +kernel
theorem dX7_init_81 : decode cX7_init 81 = .ok (.newarray .int, 2) := by decide +kernel
theorem dX7_init_83 : decode cX7_init 83 = .ok (.putfield 38, 3) := by decide +kernel
theorem dX7_init_86 : decode cX7_init 86 = .ok (.aload_n 0, 1) := by decide +kernel
theorem dX7_init_87 : decode cX7_init 87 = .ok (.sipush 600, 3) := by decide +kernel
theorem dX7_init_90 : decode cX7_init 90 = .ok (.newarray .int, 2) := by decide +kernel
theorem dX7_init_92 : decode cX7_init 92 = .ok (.putfield 41, 3) := by decide +kernel
theorem dX7_init_95 : decode cX7_init 95 = .ok (.aload_n 0, 1) := by decide +kernel
theorem dX7_init_96 : decode cX7_init 96 = .ok (.sipush 600, 3) := by decide +kernel
theorem dX7_init_99 : decode cX7_init 99 = .ok (.newarray .int, 2) := by decide +kernel
theorem dX7_init_101 : decode cX7_init 101 = .ok (.putfield 44, 3) := by decide +kernel
theorem dX7_init_104 : decode cX7_init 104 = .ok (.aload_n 0, 1) := by decide +kernel
theorem dX7_init_105 : decode cX7_init 105 = .ok (.sipush 600, 3) := by decide +kernel
theorem dX7_init_108 : decode cX7_init 108 = .ok (.newarray .int, 2) := by decide +kernel
theorem dX7_init_110 : decode cX7_init 110 = .ok (.putfield 47, 3) := by decide +kernel
theorem dX7_init_113 : decode cX7_init 113 = .ok (.aload_n 0, 1) := by decide +kernel
theorem dX7_init_114 : decode cX7_init 114 = .ok (.sipush 600, 3) := by decide +kernel
theorem dX7_init_117 : decode cX7_init 117 = .ok (.newarray .long, 2) := by decide +kernel
theorem dX7_init_119 : decode cX7_init 119 = .ok (.putfield 50, 3) := by decide +kernel
theorem dX7_init_122 : decode cX7_init 122 = .ok (.aload_n 0, 1) := by decide +kernel
theorem dX7_init_123 : decode cX7_init 123 = .ok (.iconst 5, 1) := by decide +kernel
theorem dX7_init_124 : decode cX7_init 124 = .ok (.newarray .boolean, 2) := by decide +kernel
theorem dX7_init_126 : decode cX7_init 126 = .ok (.putfield 53, 3) := by decide +kernel
theorem dX7_init_129 : decode cX7_init 129 = .ok (.aload_n 0, 1) := by decide +kernel
theorem dX7_init_130 : decode cX7_init 130 = .ok (.iconst 5, 1) := by decide +kernel
theorem dX7_init_131 : decode cX7_init 131 = .ok (.newarray .int, 2) := by decide +kernel
theorem dX7_init_133 : decode cX7_init 133 = .ok (.putfield 57, 3) := by decide +kernel
theorem dX7_init_136 : decode cX7_init 136 = .ok (.aload_n 0, 1) := by decide +kernel
theorem dX7_init_137 : decode cX7_init 137 = .ok (.bipush 8, 2) := by decide +kernel
theorem dX7_init_139 : decode cX7_init 139 = .ok (.newarray .long, 2) := by decide +kernel
theorem dX7_init_141 : decode cX7_init 141 = .ok (.putfield 60, 3) := by decide +kernel
theorem dX7_init_144 : decode cX7_init 144 = .ok (.aload_n 0, 1) := by decide +kernel
theorem dX7_init_145 : decode cX7_init 145 = .ok (.bipush 8, 2) := by decide +kernel
theorem dX7_init_147 : decode cX7_init 147 = .ok (.newarray .int, 2) := by decide +kernel
theorem dX7_init_149 : decode cX7_init 149 = .ok (.putfield 63, 3) := by decide +kernel
theorem dX7_init_152 : decode cX7_init 152 = .ok (.aload_n 0, 1) := by decide +kernel
theorem dX7_init_153 : decode cX7_init 153 = .ok (.bipush 8, 2) := by decide +kernel
theorem dX7_init_155 : decode cX7_init 155 = .ok (.newarray .boolean, 2) := by decide +kernel
theorem dX7_init_157 : decode cX7_init 157 = .ok (.putfield 66, 3) := by decide +kernel
theorem dX7_init_160 : decode cX7_init 160 = .ok (.aload_n 0, 1) := by decide +kernel
theorem dX7_init_161 : decode cX7_init 161 = .ok (.bipush 8, 2) := by decide +kernel
theorem dX7_init_163 : decode cX7_init 163 = .ok (.newarray .int, 2) := by decide +kernel
theorem dX7_init_165 : decode cX7_init 165 = .ok (.putfield 69, 3) := by decide +kernel
theorem dX7_init_168 : decode cX7_init 168 = .ok (.aload_n 0, 1) := by decide +kernel
theorem dX7_init_169 : decode cX7_init 169 = .ok (.bipush 8, 2) := by decide +kernel
theorem dX7_init_171 : decode cX7_init 171 = .ok (.newarray .int, 2) := by decide +kernel
theorem dX7_init_173 : decode cX7_init 173 = .ok (.putfield 72, 3) := by decide +kernel
theorem dX7_init_176 : decode cX7_init 176 = .ok (.aload_n 0, 1) := by decide +kernel
theorem dX7_init_177 : decode cX7_init 177 = .ok (.bipush 40, 2) := by decide +kernel
theorem dX7_init_179 : decode cX7_init 179 = .ok (.newarray .boolean, 2) := by decide +kernel
theorem dX7_init_181 : decode cX7_init 181 = .ok (.putfield 75, 3) := by decide +kernel
theorem dX7_init_184 : decode cX7_init 184 = .ok (.aload_n 0, 1) := by decide +kernel
theorem dX7_init_185 : decode cX7_init 185 = .ok (.bipush 40, 2) := by decide +kernel
theorem dX7_init_187 : decode cX7_init 187 = .ok (.newarray .int, 2) := by decide +kernel
theorem dX7_init_189 : decode cX7_init 189 = .ok (.putfield 78, 3) := by decide +kernel
theorem dX7_init_192 : decode cX7_init 192 = .ok (.aload_n 0, 1) := by decide +kernel
theorem dX7_init_193 : decode cX7_init 193 = .ok (.bipush 8, 2) := by decide +kernel
theorem dX7_init_195 : decode cX7_init 195 = .ok (.newarray .int, 2) := by decide +kernel
theorem dX7_init_197 : decode cX7_init 197 = .ok (.putfield 81, 3) := by decide +kernel
theorem dX7_init_200 : decode cX7_init 200 = .ok (.aload_n 0, 1) := by decide +kernel
theorem dX7_init_201 : decode cX7_init 201 = .ok (.bipush 8, 2) := by decide +kernel
theorem dX7_init_203 : decode cX7_init 203 = .ok (.newarray .int, 2) := by decide +kernel
theorem dX7_init_205 : decode cX7_init 205 = .ok (.putfield 84, 3) := by decide +kernel
theorem dX7_init_208 : decode cX7_init 208 = .ok (.aload_n 0, 1) := by decide +kernel
theorem dX7_init_209 : decode cX7_init 209 = .ok (.bipush 8, 2) := by decide +kernel
theorem dX7_init_211 : decode cX7_init 211 = .ok (.newarray .long, 2) := by decide +kernel
theorem dX7_init_213 : decode cX7_init 213 = .ok (.putfield 87, 3) := by decide +kernel
theorem dX7_init_216 : decode cX7_init 216 = .ok (.aload_n 0, 1) := by decide +kernel
theorem dX7_init_217 : decode cX7_init 217 = .ok (.bipush 8, 2) := by decide +kernel
theorem dX7_init_219 : decode cX7_init 219 = .ok (.newarray .boolean, 2) := by decide +kernel
theorem dX7_init_221 : decode cX7_init 221 = .ok (.putfield 90, 3) := by decide +kernel
theorem dX7_init_224 : decode cX7_init 224 = .ok (.aload_n 0, 1) := by decide +kernel
theorem dX7_init_225 : decode cX7_init 225 = .ok (.bipush 8, 2) := by decide +kernel
theorem dX7_init_227 : decode cX7_init 227 = .ok (.newarray .int, 2) := by decide +kernel
theorem dX7_init_229 : decode cX7_init 229 = .ok (.putfield 93, 3) := by decide +kernel
theorem dX7_init_232 : decode cX7_init 232 = .ok (.aload_n 0, 1) := by decide +kernel
theorem dX7_init_233 : decode cX7_init 233 = .ok (.bipush 8, 2) := by decide +kernel
theorem dX7_init_235 : decode cX7_init 235 = .ok (.newarray .int, 2) := by decide +kernel
theorem dX7_init_237 : decode cX7_init 237 = .ok (.putfield 96, 3) := by decide +kernel
theorem dX7_init_240 : decode cX7_init 240 = .ok (.aload_n 0, 1) := by decide +kernel
theorem dX7_init_241 : decode cX7_init 241 = .ok (.bipush 8, 2) := by decide +kernel
theorem dX7_init_243 : decode cX7_init 243 = .ok (.newarray .long, 2) := by decide +kernel
theorem dX7_init_245 : decode cX7_init 245 = .ok (.putfield 99, 3) := by decide +kernel
theorem dX7_init_248 : decode cX7_init 248 = .ok (.aload_n 0, 1) := by decide +kernel
theorem dX7_init_249 : decode cX7_init 249 = .ok (.bipush 8, 2) := by decide +kernel
theorem dX7_init_251 : decode cX7_init 251 = .ok (.newarray .long, 2) := by decide +kernel
theorem dX7_init_253 : decode cX7_init 253 = .ok (.putfield 102, 3) := by decide +kernel
theorem dX7_init_256 : decode cX7_init 256 = .ok (.aload_n 0, 1) := by decide +kernel
theorem dX7_init_257 : decode cX7_init 257 = .ok (.bipush 8, 2) := by decide +kernel
theorem dX7_init_259 : decode cX7_init 259 = .ok (.newarray .int, 2) := by decide +kernel
theorem dX7_init_261 : decode cX7_init 261 = .ok (.putfield 105, 3) := by decide +kernel
theorem dX7_init_264 : decode cX7_init 264 = .ok (.aload_n 0, 1) := by decide +kernel
theorem dX7_init_265 : decode cX7_init 265 = .ok (.bipush 8, 2) := by decide +kernel
theorem dX7_init_267 : decode cX7_init 267 = .ok (.newarray .int, 2) := by decide +kernel
theorem dX7_init_269 : decode cX7_init 269 = .ok (.putfield 108, 3) := by decide +kernel
theorem dX7_init_272 : decode cX7_init 272 = .ok (.aload_n 0, 1) := by decide +kernel
theorem dX7_init_273 : decode cX7_init 273 = .ok (.bipush 8, 2) := by decide +kernel
theorem dX7_init_275 : decode cX7_init 275 = .ok (.newarray .long, 2) := by decide +kernel
theorem dX7_init_277 : decode cX7_init 277 = .ok (.putfield 111, 3) := by decide +kernel
theorem dX7_init_280 : decode cX7_init 280 = .ok (.return_, 1) := by decide +kernel
theorem dX7_thrown_0 : decode cX7_thrown 0 = .ok (.aload_n 0, 1) := by decide +kernel
theorem dX7_thrown_1 : decode cX7_thrown 1 = .ok (.getfield 114, 3) := by decide +kernel
theorem dX7_thrown_4 : decode cX7_thrown 4 = .ok (.ireturn, 1) := by decide +kernel
theorem dX7_isIssuer_0 : decode cX7_isIssuer 0 = .ok (.iload_n 1, 1) := by decide +kernel
theorem dX7_isIssuer_1 : decode cX7_isIssuer 1 = .ok (.ifCond .lt 13, 3) := by decide +kernel
theorem dX7_isIssuer_4 : decode cX7_isIssuer 4 = .ok (.iload_n 1, 1) := by decide +kernel
theorem dX7_isIssuer_5 : decode cX7_isIssuer 5 = .ok (.bipush 8, 2) := by decide +kernel
theorem dX7_isIssuer_7 : decode cX7_isIssuer 7 = .ok (.if_icmp .ge 7, 3) := by decide +kernel
theorem dX7_isIssuer_10 : decode cX7_isIssuer 10 = .ok (.iconst 1, 1) := by decide +kernel
theorem dX7_isIssuer_11 : decode cX7_isIssuer 11 = .ok (.goto 4, 3) := by decide +kernel
