theorem dX7_start_40 : decode cX7_start 40 = .ok (.putfield 114, 3) := by decide +kernel
theorem dX7_start_43 : decode cX7_start 43 = .ok (.goto 9, 3) := by decide +kernel
theorem dX7_start_46 : decode cX7_start 46 = .ok (.aload_n 0, 1) := by decide +kernel
theorem dX7_start_47 : decode cX7_start 47 = .ok (.iload_n 1, 1) := by decide +kernel
theorem dX7_start_48 : decode cX7_start 48 = .ok (.iconst 0, 1) := by decide +kernel
theorem dX7_start_49 : decode cX7_start 49 = .ok (.invokevirtual 149, 3) := by decide +kernel
theorem dX7_start_52 : decode cX7_start 52 = .ok (.return_, 1) := by decide +kernel
theorem dX7_prolong_0 : decode cX7_prolong 0 = .ok (.aload_n 0, 1) := by decide +kernel
theorem dX7_prolong_1 : decode cX7_prolong 1 = .ok (.iload_n 1, 1) := by decide +kernel
theorem dX7_prolong_2 : decode cX7_prolong 2 = .ok (.invokevirtual 118, 3) := by decide +kernel
theorem dX7_prolong_5 : decode cX7_prolong 5 = .ok (.ifCond .ne 4, 3) := by decide +kernel
theorem dX7_prolong_8 : decode cX7_prolong 8 = .ok (.return_, 1) := by decide +kernel
theorem dX7_prolong_9 : decode cX7_prolong 9 = .ok (.aload_n 0, 1) := by decide +kernel
theorem dX7_prolong_10 : decode cX7_prolong 10 = .ok (.getfield 90, 3) := by decide +kernel
theorem dX7_prolong_13 : decode cX7_prolong 13 = .ok (.iload_n 1, 1) := by decide +kernel
theorem dX7_prolong_14 : decode cX7_prolong 14 = .ok (.baload, 1) := by decide +kernel
theorem dX7_prolong_15 : decode cX7_prolong 15 = .ok (.ifCond .eq 23, 3) := by decide +kernel
theorem dX7_prolong_18 : decode cX7_prolong 18 = .ok (.aload_n 0, 1) := by decide +kernel
theorem dX7_prolong_19 : decode cX7_prolong 19 = .ok (.getfield 63, 3) := by decide +kernel
theorem dX7_prolong_22 : decode cX7_prolong 22 = .ok (.iload_n 1, 1) := by decide +kernel
theorem dX7_prolong_23 : decode cX7_prolong 23 = .ok (.iaload, 1) := by decide +kernel
theorem dX7_prolong_24 : decode cX7_prolong 24 = .ok (.ifCond .ne 14, 3) := by decide +kernel
theorem dX7_prolong_27 : decode cX7_prolong 27 = .ok (.aload_n 0, 1) := by decide +kernel
theorem dX7_prolong_28 : decode cX7_prolong 28 = .ok (.getfield 124, 3) := by decide +kernel
theorem dX7_prolong_31 : decode cX7_prolong 31 = .ok (.iconst 5, 1) := by decide +kernel
theorem dX7_prolong_32 : decode cX7_prolong 32 = .ok (.iadd, 1) := by decide +kernel
theorem dX7_prolong_33 : decode cX7_prolong 33 = .ok (.bipush 90, 2) := by decide +kernel
theorem dX7_prolong_35 : decode cX7_prolong 35 = .ok (.if_icmp .le 11, 3) := by decide +kernel
theorem dX7_prolong_38 : decode cX7_prolong 38 = .ok (.aload_n 0, 1) := by decide +kernel
theorem dX7_prolong_39 : decode cX7_prolong 39 = .ok (.iconst 2, 1) := by decide +kernel
theorem dX7_prolong_40 : decode cX7_prolong 40 = .ok (.putfield 114, 3) := by decide +kernel
theorem dX7_prolong_43 : decode cX7_prolong 43 = .ok (.goto 9, 3) := by decide +kernel
theorem dX7_prolong_46 : decode cX7_prolong 46 = .ok (.aload_n 0, 1) := by decide +kernel
theorem dX7_prolong_47 : decode cX7_prolong 47 = .ok (.iload_n 1, 1) := by decide +kernel
theorem dX7_prolong_48 : decode cX7_prolong 48 = .ok (.iconst 1, 1) := by decide +kernel
theorem dX7_prolong_49 : decode cX7_prolong 49 = .ok (.invokevirtual 149, 3) := by decide +kernel
theorem dX7_prolong_52 : decode cX7_prolong 52 = .ok (.return_, 1) := by decide +kernel
theorem dX7_crash_0 : decode cX7_crash 0 = .ok (.aload_n 0, 1) := by decide +kernel
theorem dX7_crash_1 : decode cX7_crash 1 = .ok (.iload_n 1, 1) := by decide +kernel
theorem dX7_crash_2 : decode cX7_crash 2 = .ok (.invokevirtual 118, 3) := by decide +kernel
theorem dX7_crash_5 : decode cX7_crash 5 = .ok (.ifCond .ne 4, 3) := by decide +kernel
theorem dX7_crash_8 : decode cX7_crash 8 = .ok (.return_, 1) := by decide +kernel
theorem dX7_crash_9 : decode cX7_crash 9 = .ok (.aload_n 0, 1) := by decide +kernel
theorem dX7_crash_10 : decode cX7_crash 10 = .ok (.getfield 90, 3) := by decide +kernel
theorem dX7_crash_13 : decode cX7_crash 13 = .ok (.iload_n 1, 1) := by decide +kernel
theorem dX7_crash_14 : decode cX7_crash 14 = .ok (.iconst 0, 1) := by decide +kernel
theorem dX7_crash_15 : decode cX7_crash 15 = .ok (.bastore, 1) := by decide +kernel
theorem dX7_crash_16 : decode cX7_crash 16 = .ok (.aload_n 0, 1) := by decide +kernel
theorem dX7_crash_17 : decode cX7_crash 17 = .ok (.getfield 63, 3) := by decide +kernel
theorem dX7_crash_20 : decode cX7_crash 20 = .ok (.iload_n 1, 1) := by decide +kernel
theorem dX7_crash_21 : decode cX7_crash 21 = .ok (.iconst 0, 1) := by decide +kernel
theorem dX7_crash_22 : decode cX7_crash 22 = .ok (.iastore, 1) := by decide +kernel
theorem dX7_crash_23 : decode cX7_crash 23 = .ok (.aload_n 0, 1) := by decide +kernel
theorem dX7_crash_24 : decode cX7_crash 24 = .ok (.getfield 72, 3) := by decide +kernel
theorem dX7_crash_27 : decode cX7_crash 27 = .ok (.iload_n 1, 1) := by decide +kernel
theorem dX7_crash_28 : decode cX7_crash 28 = .ok (.iconst 0, 1) := by decide +kernel
theorem dX7_crash_29 : decode cX7_crash 29 = .ok (.iastore, 1) := by decide +kernel
theorem dX7_crash_30 : decode cX7_crash 30 = .ok (.return_, 1) := by decide +kernel
theorem dX7_node_0 : decode cX7_node 0 = .ok (.aload_n 0, 1) := by decide +kernel
theorem dX7_node_1 : decode cX7_node 1 = .ok (.iload_n 1, 1) := by decide +kernel
theorem dX7_node_2 : decode cX7_node 2 = .ok (.ifCond .lt 8, 3) := by decide +kernel
theorem dX7_node_5 : decode cX7_node 5 = .ok (.iload_n 1, 1) := by decide +kernel
theorem dX7_node_6 : decode cX7_node 6 = .ok (.iconst 4, 1) := by decide +kernel
theorem dX7_node_7 : decode cX7_node 7 = .ok (.if_icmp .le 7, 3) := by decide +kernel
theorem dX7_node_10 : decode cX7_node 10 = .ok (.iconst 1, 1) := by decide +kernel
theorem dX7_node_11 : decode cX7_node 11 = .ok (.goto 4, 3) := by decide +kernel
theorem dX7_node_14 : decode cX7_node 14 = .ok (.iconst 0, 1) := by decide +kernel
theorem dX7_node_15 : decode cX7_node 15 = .ok (.putfield 114, 3) := by decide +kernel
theorem dX7_node_18 : decode cX7_node 18 = .ok (.aload_n 0, 1) := by decide +kernel
theorem dX7_node_19 : decode cX7_node 19 = .ok (.getfield 114, 3) := by decide +kernel
theorem dX7_node_22 : decode cX7_node 22 = .ok (.ifCond .ne 18, 3) := by decide +kernel
theorem dX7_node_25 : decode cX7_node 25 = .ok (.aload_n 0, 1) := by decide +kernel
theorem dX7_node_26 : decode cX7_node 26 = .ok (.getfield 53, 3) := by decide +kernel
theorem dX7_node_29 : decode cX7_node 29 = .ok (.iload_n 1, 1) := by decide +kernel
theorem dX7_node_30 : decode cX7_node 30 = .ok (.iload_n 2, 1) := by decide +kernel
theorem dX7_node_31 : decode cX7_node 31 = .ok (.ifCond .ne 7, 3) := by decide +kernel
theorem dX7_node_34 : decode cX7_node 34 = .ok (.iconst 1, 1) := by decide +kernel
theorem dX7_node_35 : decode cX7_node 35 = .ok (.goto 4, 3) := by decide +kernel
theorem dX7_node_38 : decode cX7_node 38 = .ok (.iconst 0, 1) := by decide +kernel
theorem dX7_node_39 : decode cX7_node 39 = .ok (.bastore, 1) := by decide +kernel
theorem dX7_node_40 : decode cX7_node 40 = .ok (.return_, 1) := by decide +kernel
theorem dX7_rowOf_0 : decode cX7_rowOf 0 = .ok (.iload_n 3, 1) := by decide +kernel
theorem dX7_rowOf_1 : decode cX7_rowOf 1 = .ok (.iconst 1, 1) := by decide +kernel
theorem dX7_rowOf_2 : decode cX7_rowOf 2 = .ok (.isub, 1) := by decide +kernel
theorem dX7_rowOf_3 : decode cX7_rowOf 3 = .ok (.istore 4, 2) := by decide +kernel
theorem dX7_rowOf_5 : decode cX7_rowOf 5 = .ok (.iload 4, 2) := by decide +kernel
theorem dX7_rowOf_7 : decode cX7_rowOf 7 = .ok (.ifCond .lt 31, 3) := by decide +kernel
theorem dX7_rowOf_10 : decode cX7_rowOf 10 = .ok (.aload_n 0, 1) := by decide +kernel
theorem dX7_rowOf_11 : decode cX7_rowOf 11 = .ok (.getfield 35, 3) := by decide +kernel
theorem dX7_rowOf_14 : decode cX7_rowOf 14 = .ok (.iload 4, 2) := by decide +kernel
theorem dX7_rowOf_16 : decode cX7_rowOf 16 = .ok (.iaload, 1) := by decide +kernel
theorem dX7_rowOf_17 : decode cX7_rowOf 17 = .ok (.iload_n 1, 1) := by decide +kernel
theorem dX7_rowOf_18 : decode cX7_rowOf 18 = .ok (.if_icmp .ne 14, 3) := by decide +kernel
theorem dX7_rowOf_21 : decode cX7_rowOf 21 = .ok (.aload_n 0, 1) := by decide +kernel
theorem dX7_rowOf_22 : decode cX7_rowOf 22 = .ok (.getfield 38, 3) := by decide +kernel
theorem dX7_rowOf_25 : decode cX7_rowOf 25 = .ok (.iload 4, 2) := by decide +kernel
theorem dX7_rowOf_27 : decode cX7_rowOf 27 = .ok (.iaload, 1) := by decide +kernel
theorem dX7_rowOf_28 : decode cX7_rowOf 28 = .ok (.iload_n 2, 1) := by decide +kernel
theorem dX7_rowOf_29 : decode cX7_rowOf 29 = .ok (.if_icmp .eq 9, 3) := by decide +kernel
theorem dX7_rowOf_32 : decode cX7_rowOf 32 = .ok (.iinc 4 (-1), 3) := by decide +kernel
theorem dX7_rowOf_35 : decode cX7_rowOf 35 = .ok (.goto (-30), 3) := by decide +kernel
theorem dX7_rowOf_38 : decode cX7_rowOf 38 = .ok (.iload 4, 2) := by decide +kernel
theorem dX7_rowOf_40 : decode cX7_rowOf 40 = .ok (.ireturn, 1) := by decide +kernel
theorem dX7_ballotAt_0 : decode cX7_ballotAt 0 = .ok (.iload_n 1, 1) := by decide +kernel
theorem dX7_ballotAt_1 : decode cX7_ballotAt 1 = .ok (.ifCond .ge 7, 3) := by decide +kernel
theorem dX7_ballotAt_4 : decode cX7_ballotAt 4 = .ok (.iconst 0, 1) := by decide +kernel
theorem dX7_ballotAt_5 : decode cX7_ballotAt 5 = .ok (.goto 9, 3) := by decide +kernel
theorem dX7_ballotAt_8 : decode cX7_ballotAt 8 = .ok (.aload_n 0, 1) := by decide +kernel
theorem dX7_ballotAt_9 : decode cX7_ballotAt 9 = .ok (.getfield 41, 3) := by decide +kernel
theorem dX7_ballotAt_12 : decode cX7_ballotAt 12 = .ok (.iload_n 1, 1) := by decide +kernel
theorem dX7_ballotAt_13 : decode cX7_ballotAt 13 = .ok (.iaload, 1) := by decide +kernel
theorem dX7_ballotAt_14 : decode cX7_ballotAt 14 = .ok (.ireturn, 1) := by decide +kernel
theorem dX7_holderAt_0 : decode cX7_holderAt 0 = .ok (.iload_n 1, 1) := by decide +kernel
theorem dX7_holderAt_1 : decode cX7_holderAt 1 = .ok (.ifCond .ge 7, 3) := by decide +kernel
theorem dX7_holderAt_4 : decode cX7_holderAt 4 = .ok (.iconst (-1), 1) := by decide +kernel
theorem dX7_holderAt_5 : decode cX7_holderAt 5 = .ok (.goto 9, 3) := by decide +kernel
theorem dX7_holderAt_8 : decode cX7_holderAt 8 = .ok (.aload_n 0, 1) := by decide +kernel
theorem dX7_holderAt_9 : decode cX7_holderAt 9 = .ok (.getfield 44, 3) := by decide +kernel
theorem dX7_holderAt_12 : decode cX7_holderAt 12 = .ok (.iload_n 1, 1) := by decide +kernel
theorem dX7_holderAt_13 : decode cX7_holderAt 13 = .ok (.iaload, 1) := by decide +kernel
theorem dX7_holderAt_14 : decode cX7_holderAt 14 = .ok (.ireturn, 1) := by decide +kernel
theorem dX7_termAt_0 : decode cX7_termAt 0 = .ok (.iload_n 1, 1) := by decide +kernel
theorem dX7_termAt_1 : decode cX7_termAt 1 = .ok (.ifCond .ge 7, 3) := by decide +kernel
theorem dX7_termAt_4 : decode cX7_termAt 4 = .ok (.iconst 0, 1) := by decide +kernel
theorem dX7_termAt_5 : decode cX7_termAt 5 = .ok (.goto 9, 3) := by decide +kernel
theorem dX7_termAt_8 : decode cX7_termAt 8 = .ok (.aload_n 0, 1) := by decide +kernel
theorem dX7_termAt_9 : decode cX7_termAt 9 = .ok (.getfield 47, 3) := by decide +kernel
theorem dX7_termAt_12 : decode cX7_termAt 12 = .ok (.iload_n 1, 1) := by decide +kernel
theorem dX7_termAt_13 : decode cX7_termAt 13 = .ok (.iaload, 1) := by decide +kernel
theorem dX7_termAt_14 : decode cX7_termAt 14 = .ok (.ireturn, 1) := by decide +kernel
theorem dX7_markAt_0 : decode cX7_markAt 0 = .ok (.iload_n 1, 1) := by decide +kernel
theorem dX7_markAt_1 : decode cX7_markAt 1 = .ok (.ifCond .ge 7, 3) := by decide +kernel
theorem dX7_markAt_4 : decode cX7_markAt 4 = .ok (.lconst 0, 1) := by decide +kernel
theorem dX7_markAt_5 : decode cX7_markAt 5 = .ok (.goto 9, 3) := by decide +kernel
theorem dX7_markAt_8 : decode cX7_markAt 8 = .ok (.aload_n 0, 1) := by decide +kernel
theorem dX7_markAt_9 : decode cX7_markAt 9 = .ok (.getfield 50, 3) := by decide +kernel
theorem dX7_markAt_12 : decode cX7_markAt 12 = .ok (.iload_n 1, 1) := by decide +kernel
theorem dX7_markAt_13 : decode cX7_markAt 13 = .ok (.laload, 1) := by decide +kernel
theorem dX7_markAt_14 : decode cX7_markAt 14 = .ok (.lreturn, 1) := by decide +kernel
theorem dX7_agreed_0 : decode cX7_agreed 0 = .ok (.aload_n 0, 1) := by decide +kernel
theorem dX7_agreed_1 : decode cX7_agreed 1 = .ok (.iload_n 3, 1) := by decide +kernel
theorem dX7_agreed_2 : decode cX7_agreed 2 = .ok (.iload_n 2, 1) := by decide +kernel
theorem dX7_agreed_3 : decode cX7_agreed 3 = .ok (.iload 4, 2) := by decide +kernel
theorem dX7_agreed_5 : decode cX7_agreed 5 = .ok (.invokevirtual 153, 3) := by decide +kernel
theorem dX7_agreed_8 : decode cX7_agreed 8 = .ok (.istore 5, 2) := by decide +kernel
theorem dX7_agreed_10 : decode cX7_agreed 10 = .ok (.iconst 0, 1) := by decide +kernel
theorem dX7_agreed_11 : decode cX7_agreed 11 = .ok (.istore 6, 2) := by decide +kernel
theorem dX7_agreed_13 : decode cX7_agreed 13 = .ok (.iload 6, 2) := by decide +kernel
theorem dX7_agreed_15 : decode cX7_agreed 15 = .ok (.iconst 5, 1) := by decide +kernel
theorem dX7_agreed_16 : decode cX7_agreed 16 = .ok (.if_icmp .ge 70, 3) := by decide +kernel
theorem dX7_agreed_19 : decode cX7_agreed 19 = .ok (.aload_n 0, 1) := by decide +kernel
theorem dX7_agreed_20 : decode cX7_agreed 20 = .ok (.getfield 75, 3) := by decide +kernel
theorem dX7_agreed_23 : decode cX7_agreed 23 = .ok (.iconst 5, 1) := by decide +kernel
theorem dX7_agreed_24 : decode cX7_agreed 24 = .ok (.iload_n 1, 1) := by decide +kernel
theorem dX7_agreed_25 : decode cX7_agreed 25 = .ok (.imul, 1) := by decide +kernel
theorem dX7_agreed_26 : decode cX7_agreed 26 = .ok (.iload 6, 2) := by decide +kernel
theorem dX7_agreed_28 : decode cX7_agreed 28 = .ok (.iadd, 1) := by decide +kernel
theorem dX7_agreed_29 : decode cX7_agreed 29 = .ok (.baload, 1) := by decide +kernel
theorem dX7_agreed_30 : decode cX7_agreed 30 = .ok (.ifCond .ne 6, 3) := by decide +kernel
theorem dX7_agreed_33 : decode cX7_agreed 33 = .ok (.goto 47, 3) := by decide +kernel
theorem dX7_agreed_36 : decode cX7_agreed 36 = .ok (.aload_n 0, 1) := by decide +kernel
theorem dX7_agreed_37 : decode cX7_agreed 37 = .ok (.iload 6, 2) := by decide +kernel
theorem dX7_agreed_39 : decode cX7_agreed 39 = .ok (.iload_n 2, 1) := by decide +kernel
theorem dX7_agreed_40 : decode cX7_agreed 40 = .ok (.aload_n 0, 1) := by decide +kernel
theorem dX7_agreed_41 : decode cX7_agreed 41 = .ok (.getfield 78, 3) := by decide +kernel
theorem dX7_agreed_44 : decode cX7_agreed 44 = .ok (.iconst 5, 1) := by decide +kernel
theorem dX7_agreed_45 : decode cX7_agreed 45 = .ok (.iload_n 1, 1) := by decide +kernel
theorem dX7_agreed_46 : decode cX7_agreed 46 = .ok (.imul, 1) := by decide +kernel
theorem dX7_agreed_47 : decode cX7_agreed 47 = .ok (.iload 6, 2) := by decide +kernel
theorem dX7_agreed_49 : decode cX7_agreed 49 = .ok (.iadd, 1) := by decide +kernel
theorem dX7_agreed_50 : decode cX7_agreed 50 = .ok (.iaload, 1) := by decide +kernel
theorem dX7_agreed_51 : decode cX7_agreed 51 = .ok (.invokevirtual 153, 3) := by decide +kernel
theorem dX7_agreed_54 : decode cX7_agreed 54 = .ok (.istore 7, 2) := by decide +kernel
theorem dX7_agreed_56 : decode cX7_agreed 56 = .ok (.aload_n 0, 1) := by decide +kernel
theorem dX7_agreed_57 : decode cX7_agreed 57 = .ok (.iload 7, 2) := by decide +kernel
theorem dX7_agreed_59 : decode cX7_agreed 59 = .ok (.invokevirtual 157, 3) := by decide +kernel
theorem dX7_agreed_62 : decode cX7_agreed 62 = .ok (.aload_n 0, 1) := by decide +kernel
theorem dX7_agreed_63 : decode cX7_agreed 63 = .ok (.iload 5, 2) := by decide +kernel
theorem dX7_agreed_65 : decode cX7_agreed 65 = .ok (.invokevirtual 157, 3) := by decide +kernel
theorem dX7_agreed_68 : decode cX7_agreed 68 = .ok (.if_icmp .le 8, 3) := by decide +kernel
theorem dX7_agreed_71 : decode cX7_agreed 71 = .ok (.iload 7, 2) := by decide +kernel
theorem dX7_agreed_73 : decode cX7_agreed 73 = .ok (.goto 5, 3) := by decide +kernel
theorem dX7_agreed_76 : decode cX7_agreed 76 = .ok (.iload 5, 2) := by decide +kernel
theorem dX7_agreed_78 : decode cX7_agreed 78 = .ok (.istore 5, 2) := by decide +kernel
theorem dX7_agreed_80 : decode cX7_agreed 80 = .ok (.iinc 6 1, 3) := by decide +kernel
theorem dX7_agreed_83 : decode cX7_agreed 83 = .ok (.goto (-70), 3) := by decide +kernel
theorem dX7_agreed_86 : decode cX7_agreed 86 = .ok (.iload 5, 2) := by decide +kernel
theorem dX7_agreed_88 : decode cX7_agreed 88 = .ok (.ireturn, 1) := by decide +kernel
theorem dX7_seatToStart_0 : decode cX7_seatToStart 0 = .ok (.iconst (-1), 1) := by decide +kernel
theorem dX7_seatToStart_1 : decode cX7_seatToStart 1 = .ok (.istore 4, 2) := by decide +kernel
theorem dX7_seatToStart_3 : decode cX7_seatToStart 3 = .ok (.bipush 7, 2) := by decide +kernel
theorem dX7_seatToStart_5 : decode cX7_seatToStart 5 = .ok (.istore 5, 2) := by decide +kernel
theorem dX7_seatToStart_7 : decode cX7_seatToStart 7 = .ok (.iload 5, 2) := by decide +kernel
theorem dX7_seatToStart_9 : decode cX7_seatToStart 9 = .ok (.ifCond .lt 35, 3) := by decide +kernel
theorem dX7_seatToStart_12 : decode cX7_seatToStart 12 = .ok (.aload_n 0, 1) := by decide +kernel
theorem dX7_seatToStart_13 : decode cX7_seatToStart 13 = .ok (.aload_n 0, 1) := by decide +kernel
theorem dX7_seatToStart_14 : decode cX7_seatToStart 14 = .ok (.iload_n 1, 1) := by decide +kernel
theorem dX7_seatToStart_15 : decode cX7_seatToStart 15 = .ok (.iload 5, 2) := by decide +kernel
theorem dX7_seatToStart_17 : decode cX7_seatToStart 17 = .ok (.iload_n 2, 1) := by decide +kernel
theorem dX7_seatToStart_18 : decode cX7_seatToStart 18 = .ok (.iload_n 3, 1) := by decide +kernel
theorem dX7_seatToStart_19 : decode cX7_seatToStart 19 = .ok (.invokevirtual 160, 3) := by decide +kernel
theorem dX7_seatToStart_22 : decode cX7_seatToStart 22 = .ok (.invokevirtual 164, 3) := by decide +kernel
theorem dX7_seatToStart_25 : decode cX7_seatToStart 25 = .ok (.iconst (-1), 1) := by decide +kernel
theorem dX7_seatToStart_26 : decode cX7_seatToStart 26 = .ok (.if_icmp .ne 8, 3) := by decide +kernel
theorem dX7_seatToStart_29 : decode cX7_seatToStart 29 = .ok (.iload 5, 2) := by decide +kernel
theorem dX7_seatToStart_31 : decode cX7_seatToStart 31 = .ok (.goto 5, 3) := by decide +kernel
theorem dX7_seatToStart_34 : decode cX7_seatToStart 34 = .ok (.iload 4, 2) := by decide +kernel
theorem dX7_seatToStart_36 : decode cX7_seatToStart 36 = .ok (.istore 4, 2) := by decide +kernel
theorem dX7_seatToStart_38 : decode cX7_seatToStart 38 = .ok (.iinc 5 (-1), 3) := by decide +kernel
theorem dX7_seatToStart_41 : decode cX7_seatToStart 41 = .ok (.goto (-34), 3) := by decide +kernel
theorem dX7_seatToStart_44 : decode cX7_seatToStart 44 = .ok (.iconst (-1), 1) := by decide +kernel
theorem dX7_seatToStart_45 : decode cX7_seatToStart 45 = .ok (.istore 5, 2) := by decide +kernel
theorem dX7_seatToStart_47 : decode cX7_seatToStart 47 = .ok (.bipush 7, 2) := by decide +kernel
theorem dX7_seatToStart_49 : decode cX7_seatToStart 49 = .ok (.istore 6, 2) := by decide +kernel
theorem dX7_seatToStart_51 : decode cX7_seatToStart 51 = .ok (.iload 6, 2) := by decide +kernel
theorem dX7_seatToStart_53 : decode cX7_seatToStart 53 = .ok (.ifCond .lt 35, 3) := by decide +kernel
theorem dX7_seatToStart_56 : decode cX7_seatToStart 56 = .ok (.aload_n 0, 1) := by decide +kernel
theorem dX7_seatToStart_57 : decode cX7_seatToStart 57 = .ok (.aload_n 0, 1) := by decide +kernel
theorem dX7_seatToStart_58 : decode cX7_seatToStart 58 = .ok (.iload_n 1, 1) := by decide +kernel
theorem dX7_seatToStart_59 : decode cX7_seatToStart 59 = .ok (.iload 6, 2) := by decide +kernel
theorem dX7_seatToStart_61 : decode cX7_seatToStart 61 = .ok (.iload_n 2, 1) := by decide +kernel
theorem dX7_seatToStart_62 : decode cX7_seatToStart 62 = .ok (.iload_n 3, 1) := by decide +kernel
theorem dX7_seatToStart_63 : decode cX7_seatToStart 63 = .ok (.invokevirtual 160, 3) := by decide +kernel
theorem dX7_seatToStart_66 : decode cX7_seatToStart 66 = .ok (.invokevirtual 164, 3) := by decide +kernel
theorem dX7_seatToStart_69 : decode cX7_seatToStart 69 = .ok (.iload_n 1, 1) := by decide +kernel
theorem dX7_seatToStart_70 : decode cX7_seatToStart 70 = .ok (.if_icmp .ne 8, 3) := by decide +kernel
theorem dX7_seatToStart_73 : decode cX7_seatToStart 73 = .ok (.iload 6, 2) := by decide +kernel
theorem dX7_seatToStart_75 : decode cX7_seatToStart 75 = .ok (.goto 5, 3) := by decide +kernel
theorem dX7_seatToStart_78 : decode cX7_seatToStart 78 = .ok (.iload 5, 2) := by decide +kernel
theorem dX7_seatToStart_80 : decode cX7_seatToStart 80 = .ok (.istore 5, 2) := by decide +kernel
theorem dX7_seatToStart_82 : decode cX7_seatToStart 82 = .ok (.iinc 6 (-1), 3) := by decide +kernel
theorem dX7_seatToStart_85 : decode cX7_seatToStart 85 = .ok (.goto (-34), 3) := by decide +kernel
theorem dX7_seatToStart_88 : decode cX7_seatToStart 88 = .ok (.iload 5, 2) := by decide +kernel
theorem dX7_seatToStart_90 : decode cX7_seatToStart 90 = .ok (.ifCond .lt 8, 3) := by decide +kernel
theorem dX7_seatToStart_93 : decode cX7_seatToStart 93 = .ok (.iload 5, 2) := by decide +kernel
theorem dX7_seatToStart_95 : decode cX7_seatToStart 95 = .ok (.goto 5, 3) := by decide +kernel
theorem dX7_seatToStart_98 : decode cX7_seatToStart 98 = .ok (.iload 4, 2) := by decide +kernel
theorem dX7_seatToStart_100 : decode cX7_seatToStart 100 = .ok (.ireturn, 1) := by decide +kernel
theorem dX7_countOf_0 : decode cX7_countOf 0 = .ok (.iconst 0, 1) := by decide +kernel
theorem dX7_countOf_1 : decode cX7_countOf 1 = .ok (.istore_n 2, 1) := by decide +kernel
theorem dX7_countOf_2 : decode cX7_countOf 2 = .ok (.iconst 0, 1) := by decide +kernel
theorem dX7_countOf_3 : decode cX7_countOf 3 = .ok (.istore_n 3, 1) := by decide +kernel
theorem dX7_countOf_4 : decode cX7_countOf 4 = .ok (.iload_n 3, 1) := by decide +kernel
theorem dX7_countOf_5 : decode cX7_countOf 5 = .ok (.iconst 5, 1) := by decide +kernel
theorem dX7_countOf_6 : decode cX7_countOf 6 = .ok (.if_icmp .ge 30, 3) := by decide +kernel
theorem dX7_countOf_9 : decode cX7_countOf 9 = .ok (.iload_n 2, 1) := by decide +kernel
theorem dX7_countOf_10 : decode cX7_countOf 10 = .ok (.aload_n 0, 1) := by decide +kernel
theorem dX7_countOf_11 : decode cX7_countOf 11 = .ok (.getfield 75, 3) := by decide +kernel
theorem dX7_countOf_14 : decode cX7_countOf 14 = .ok (.iconst 5, 1) := by decide +kernel
theorem dX7_countOf_15 : decode cX7_countOf 15 = .ok (.iload_n 1, 1) := by decide +kernel
theorem dX7_countOf_16 : decode cX7_countOf 16 = .ok (.imul, 1) := by decide +kernel
theorem dX7_countOf_17 : decode cX7_countOf 17 = .ok (.iload_n 3, 1) := by decide +kernel
theorem dX7_countOf_18 : decode cX7_countOf 18 = .ok (.iadd, 1) := by decide +kernel
theorem dX7_countOf_19 : decode cX7_countOf 19 = .ok (.baload, 1) := by decide +kernel
theorem dX7_countOf_20 : decode cX7_countOf 20 = .ok (.ifCond .eq 7, 3) := by decide +kernel
theorem dX7_countOf_23 : decode cX7_countOf 23 = .ok (.iconst 1, 1) := by decide +kernel
theorem dX7_countOf_24 : decode cX7_countOf 24 = .ok (.goto 4, 3) := by decide +kernel
theorem dX7_countOf_27 : decode cX7_countOf 27 = .ok (.iconst 0, 1) := by decide +kernel
theorem dX7_countOf_28 : decode cX7_countOf 28 = .ok (.iadd, 1) := by decide +kernel
theorem dX7_countOf_29 : decode cX7_countOf 29 = .ok (.istore_n 2, 1) := by decide +kernel
theorem dX7_countOf_30 : decode cX7_countOf 30 = .ok (.iinc 3 1, 3) := by decide +kernel
theorem dX7_countOf_33 : decode cX7_countOf 33 = .ok (.goto (-29), 3) := by decide +kernel
theorem dX7_countOf_36 : decode cX7_countOf 36 = .ok (.iload_n 2, 1) := by decide +kernel
theorem dX7_countOf_37 : decode cX7_countOf 37 = .ok (.ireturn, 1) := by decide +kernel
theorem dX7_fail_0 : decode cX7_fail 0 = .ok (.aload_n 0, 1) := by decide +kernel
theorem dX7_fail_1 : decode cX7_fail 1 = .ok (.getfield 63, 3) := by decide +kernel
theorem dX7_fail_4 : decode cX7_fail 4 = .ok (.iload_n 1, 1) := by decide +kernel
theorem dX7_fail_5 : decode cX7_fail 5 = .ok (.iconst 0, 1) := by decide +kernel
theorem dX7_fail_6 : decode cX7_fail 6 = .ok (.iastore, 1) := by decide +kernel
theorem dX7_fail_7 : decode cX7_fail 7 = .ok (.aload_n 0, 1) := by decide +kernel
theorem dX7_fail_8 : decode cX7_fail 8 = .ok (.getfield 108, 3) := by decide +kernel
theorem dX7_fail_11 : decode cX7_fail 11 = .ok (.iload_n 1, 1) := by decide +kernel
theorem dX7_fail_12 : decode cX7_fail 12 = .ok (.dup2, 1) := by decide +kernel
theorem dX7_fail_13 : decode cX7_fail 13 = .ok (.iaload, 1) := by decide +kernel
theorem dX7_fail_14 : decode cX7_fail 14 = .ok (.iconst 1, 1) := by decide +kernel
theorem dX7_fail_15 : decode cX7_fail 15 = .ok (.iadd, 1) := by decide +kernel
theorem dX7_fail_16 : decode cX7_fail 16 = .ok (.iastore, 1) := by decide +kernel
theorem dX7_fail_17 : decode cX7_fail 17 = .ok (.return_, 1) := by decide +kernel
theorem dX7_answer_0 : decode cX7_answer 0 = .ok (.aload_n 0, 1) := by decide +kernel
theorem dX7_answer_1 : decode cX7_answer 1 = .ok (.iload_n 1, 1) := by decide +kernel
theorem dX7_answer_2 : decode cX7_answer 2 = .ok (.iload_n 2, 1) := by decide +kernel
theorem dX7_answer_3 : decode cX7_answer 3 = .ok (.iload_n 3, 1) := by decide +kernel
theorem dX7_answer_4 : decode cX7_answer 4 = .ok (.iload 4, 2) := by decide +kernel
theorem dX7_answer_6 : decode cX7_answer 6 = .ok (.iload 5, 2) := by decide +kernel
theorem dX7_answer_8 : decode cX7_answer 8 = .ok (.invokevirtual 145, 3) := by decide +kernel
theorem dX7_answer_11 : decode cX7_answer 11 = .ok (.iconst 1, 1) := by decide +kernel
theorem dX7_answer_12 : decode cX7_answer 12 = .ok (.ireturn, 1) := by decide +kernel
theorem dX7_prepares_0 : decode cX7_prepares 0 = .ok (.iload_n 3, 1) := by decide +kernel
theorem dX7_prepares_1 : decode cX7_prepares 1 = .ok (.aload_n 0, 1) := by decide +kernel
theorem dX7_prepares_2 : decode cX7_prepares 2 = .ok (.getfield 57, 3) := by decide +kernel
theorem dX7_prepares_5 : decode cX7_prepares 5 = .ok (.iload_n 2, 1) := by decide +kernel
theorem dX7_prepares_6 : decode cX7_prepares 6 = .ok (.iaload, 1) := by decide +kernel
theorem dX7_prepares_7 : decode cX7_prepares 7 = .ok (.if_icmp .gt 18, 3) := by decide +kernel
theorem dX7_prepares_10 : decode cX7_prepares 10 = .ok (.aload_n 0, 1) := by decide +kernel
theorem dX7_prepares_11 : decode cX7_prepares 11 = .ok (.iconst 4, 1) := by decide +kernel
theorem dX7_prepares_12 : decode cX7_prepares 12 = .ok (.iload_n 1, 1) := by decide +kernel
theorem dX7_prepares_13 : decode cX7_prepares 13 = .ok (.iload_n 2, 1) := by decide +kernel
theorem dX7_prepares_14 : decode cX7_prepares 14 = .ok (.iload_n 3, 1) := by decide +kernel
theorem dX7_prepares_15 : decode cX7_prepares 15 = .ok (.aload_n 0, 1) := by decide +kernel
theorem dX7_prepares_16 : decode cX7_prepares 16 = .ok (.getfield 57, 3) := by decide +kernel
theorem dX7_prepares_19 : decode cX7_prepares 19 = .ok (.iload_n 2, 1) := by decide +kernel
theorem dX7_prepares_20 : decode cX7_prepares 20 = .ok (.iaload, 1) := by decide +kernel
theorem dX7_prepares_21 : decode cX7_prepares 21 = .ok (.invokevirtual 167, 3) := by decide +kernel
theorem dX7_prepares_24 : decode cX7_prepares 24 = .ok (.ireturn, 1) := by decide +kernel
theorem dX7_prepares_25 : decode cX7_prepares 25 = .ok (.aload_n 0, 1) := by decide +kernel
theorem dX7_prepares_26 : decode cX7_prepares 26 = .ok (.getfield 57, 3) := by decide +kernel
theorem dX7_prepares_29 : decode cX7_prepares 29 = .ok (.iload_n 2, 1) := by decide +kernel
theorem dX7_prepares_30 : decode cX7_prepares 30 = .ok (.iload_n 3, 1) := by decide +kernel
theorem dX7_prepares_31 : decode cX7_prepares 31 = .ok (.iastore, 1) := by decide +kernel
theorem dX7_prepares_32 : decode cX7_prepares 32 = .ok (.aload_n 0, 1) := by decide +kernel
theorem dX7_prepares_33 : decode cX7_prepares 33 = .ok (.iconst 1, 1) := by decide +kernel
theorem dX7_prepares_34 : decode cX7_prepares 34 = .ok (.iload_n 1, 1) := by decide +kernel
theorem dX7_prepares_35 : decode cX7_prepares 35 = .ok (.iload_n 2, 1) := by decide +kernel
theorem dX7_prepares_36 : decode cX7_prepares 36 = .ok (.iload_n 3, 1) := by decide +kernel
theorem dX7_prepares_37 : decode cX7_prepares 37 = .ok (.aload_n 0, 1) := by decide +kernel
theorem dX7_prepares_38 : decode cX7_prepares 38 = .ok (.getfield 171, 3) := by decide +kernel
theorem dX7_prepares_41 : decode cX7_prepares 41 = .ok (.invokevirtual 167, 3) := by decide +kernel
theorem dX7_prepares_44 : decode cX7_prepares 44 = .ok (.ireturn, 1) := by decide +kernel
theorem dX7_accepts_0 : decode cX7_accepts 0 = .ok (.aload_n 0, 1) := by decide +kernel
theorem dX7_accepts_1 : decode cX7_accepts 1 = .ok (.getfield 22, 3) := by decide +kernel
theorem dX7_accepts_4 : decode cX7_accepts 4 = .ok (.iload_n 1, 1) := by decide +kernel
theorem dX7_accepts_5 : decode cX7_accepts 5 = .ok (.iaload, 1) := by decide +kernel
theorem dX7_accepts_6 : decode cX7_accepts 6 = .ok (.istore 5, 2) := by decide +kernel
theorem dX7_accepts_8 : decode cX7_accepts 8 = .ok (.aload_n 0, 1) := by decide +kernel
theorem dX7_accepts_9 : decode cX7_accepts 9 = .ok (.getfield 25, 3) := by decide +kernel
theorem dX7_accepts_12 : decode cX7_accepts 12 = .ok (.iload_n 1, 1) := by decide +kernel
theorem dX7_accepts_13 : decode cX7_accepts 13 = .ok (.iaload, 1) := by decide +kernel
theorem dX7_accepts_14 : decode cX7_accepts 14 = .ok (.istore 6, 2) := by decide +kernel
theorem dX7_accepts_16 : decode cX7_accepts 16 = .ok (.aload_n 0, 1) := by decide +kernel
theorem dX7_accepts_17 : decode cX7_accepts 17 = .ok (.getfield 28, 3) := by decide +kernel
theorem dX7_accepts_20 : decode cX7_accepts 20 = .ok (.iload_n 1, 1) := by decide +kernel
theorem dX7_accepts_21 : decode cX7_accepts 21 = .ok (.laload, 1) := by decide +kernel
theorem dX7_accepts_22 : decode cX7_accepts 22 = .ok (.lstore 7, 2) := by decide +kernel
theorem dX7_accepts_24 : decode cX7_accepts 24 = .ok (.aload_n 0, 1) := by decide +kernel
theorem dX7_accepts_25 : decode cX7_accepts 25 = .ok (.iload_n 1, 1) := by decide +kernel
theorem dX7_accepts_26 : decode cX7_accepts 26 = .ok (.invokevirtual 134, 3) := by decide +kernel
theorem dX7_accepts_29 : decode cX7_accepts 29 = .ok (.iload 4, 2) := by decide +kernel
theorem dX7_accepts_31 : decode cX7_accepts 31 = .ok (.aload_n 0, 1) := by decide +kernel
theorem dX7_accepts_32 : decode cX7_accepts 32 = .ok (.getfield 57, 3) := by decide +kernel
theorem dX7_accepts_35 : decode cX7_accepts 35 = .ok (.iload_n 3, 1) := by decide +kernel
theorem dX7_accepts_36 : decode cX7_accepts 36 = .ok (.iaload, 1) := by decide +kernel
theorem dX7_accepts_37 : decode cX7_accepts 37 = .ok (.if_icmp .ge 19, 3) := by decide +kernel
theorem dX7_accepts_40 : decode cX7_accepts 40 = .ok (.aload_n 0, 1) := by decide +kernel
theorem dX7_accepts_41 : decode cX7_accepts 41 = .ok (.iconst 4, 1) := by decide +kernel
theorem dX7_accepts_42 : decode cX7_accepts 42 = .ok (.iload_n 2, 1) := by decide +kernel
theorem dX7_accepts_43 : decode cX7_accepts 43 = .ok (.iload_n 3, 1) := by decide +kernel
theorem dX7_accepts_44 : decode cX7_accepts 44 = .ok (.iload 4, 2) := by decide +kernel
theorem dX7_accepts_46 : decode cX7_accepts 46 = .ok (.aload_n 0, 1) := by decide +kernel
theorem dX7_accepts_47 : decode cX7_accepts 47 = .ok (.getfield 57, 3) := by decide +kernel
theorem dX7_accepts_50 : decode cX7_accepts 50 = .ok (.iload_n 3, 1) := by decide +kernel
theorem dX7_accepts_51 : decode cX7_accepts 51 = .ok (.iaload, 1) := by decide +kernel
theorem dX7_accepts_52 : decode cX7_accepts 52 = .ok (.invokevirtual 167, 3) := by decide +kernel
theorem dX7_accepts_55 : decode cX7_accepts 55 = .ok (.ireturn, 1) := by decide +kernel
theorem dX7_accepts_56 : decode cX7_accepts 56 = .ok (.aload_n 0, 1) := by decide +kernel
theorem dX7_accepts_57 : decode cX7_accepts 57 = .ok (.getfield 57, 3) := by decide +kernel
theorem dX7_accepts_60 : decode cX7_accepts 60 = .ok (.iload_n 3, 1) := by decide +kernel
theorem dX7_accepts_61 : decode cX7_accepts 61 = .ok (.iload 4, 2) := by decide +kernel
theorem dX7_accepts_63 : decode cX7_accepts 63 = .ok (.iastore, 1) := by decide +kernel
theorem dX7_accepts_64 : decode cX7_accepts 64 = .ok (.aload_n 0, 1) := by decide +kernel
theorem dX7_accepts_65 : decode cX7_accepts 65 = .ok (.getfield 35, 3) := by decide +kernel
theorem dX7_accepts_68 : decode cX7_accepts 68 = .ok (.aload_n 0, 1) := by decide +kernel
theorem dX7_accepts_69 : decode cX7_accepts 69 = .ok (.getfield 171, 3) := by decide +kernel
theorem dX7_accepts_72 : decode cX7_accepts 72 = .ok (.iload_n 3, 1) := by decide +kernel
theorem dX7_accepts_73 : decode cX7_accepts 73 = .ok (.iastore, 1) := by decide +kernel
theorem dX7_accepts_74 : decode cX7_accepts 74 = .ok (.aload_n 0, 1) := by decide +kernel
theorem dX7_accepts_75 : decode cX7_accepts 75 = .ok (.getfield 38, 3) := by decide +kernel
theorem dX7_accepts_78 : decode cX7_accepts 78 = .ok (.aload_n 0, 1) := by decide +kernel
theorem dX7_accepts_79 : decode cX7_accepts 79 = .ok (.getfield 171, 3) := by decide +kernel
theorem dX7_accepts_82 : decode cX7_accepts 82 = .ok (.iload 5, 2) := by decide +kernel
theorem dX7_accepts_84 : decode cX7_accepts 84 = .ok (.iastore, 1) := by decide +kernel
theorem dX7_accepts_85 : decode cX7_accepts 85 = .ok (.aload_n 0, 1) := by decide +kernel
theorem dX7_accepts_86 : decode cX7_accepts 86 = .ok (.getfield 41, 3) := by decide +kernel
theorem dX7_accepts_89 : decode cX7_accepts 89 = .ok (.aload_n 0, 1) := by decide +kernel
theorem dX7_accepts_90 : decode cX7_accepts 90 = .ok (.getfield 171, 3) := by decide +kernel
theorem dX7_accepts_93 : decode cX7_accepts 93 = .ok (.iload 4, 2) := by decide +kernel
theorem dX7_accepts_95 : decode cX7_accepts 95 = .ok (.iastore, 1) := by decide +kernel
theorem dX7_accepts_96 : decode cX7_accepts 96 = .ok (.aload_n 0, 1) := by decide +kernel
theorem dX7_accepts_97 : decode cX7_accepts 97 = .ok (.getfield 44, 3) := by decide +kernel
theorem dX7_accepts_100 : decode cX7_accepts 100 = .ok (.aload_n 0, 1) := by decide +kernel
theorem dX7_accepts_101 : decode cX7_accepts 101 = .ok (.getfield 171, 3) := by decide +kernel
theorem dX7_accepts_104 : decode cX7_accepts 104 = .ok (.iload_n 2, 1) := by decide +kernel
theorem dX7_accepts_105 : decode cX7_accepts 105 = .ok (.iastore, 1) := by decide +kernel
theorem dX7_accepts_106 : decode cX7_accepts 106 = .ok (.aload_n 0, 1) := by decide +kernel
theorem dX7_accepts_107 : decode cX7_accepts 107 = .ok (.getfield 47, 3) := by decide +kernel
theorem dX7_accepts_110 : decode cX7_accepts 110 = .ok (.aload_n 0, 1) := by decide +kernel
theorem dX7_accepts_111 : decode cX7_accepts 111 = .ok (.getfield 171, 3) := by decide +kernel
theorem dX7_accepts_114 : decode cX7_accepts 114 = .ok (.iload 6, 2) := by decide +kernel
theorem dX7_accepts_116 : decode cX7_accepts 116 = .ok (.iastore, 1) := by decide +kernel
theorem dX7_accepts_117 : decode cX7_accepts 117 = .ok (.aload_n 0, 1) := by decide +kernel
theorem dX7_accepts_118 : decode cX7_accepts 118 = .ok (.getfield 50, 3) := by decide +kernel
theorem dX7_accepts_121 : decode cX7_accepts 121 = .ok (.aload_n 0, 1) := by decide +kernel
theorem dX7_accepts_122 : decode cX7_accepts 122 = .ok (.getfield 171, 3) := by decide +kernel
theorem dX7_accepts_125 : decode cX7_accepts 125 = .ok (.lload 7, 2) := by decide +kernel
theorem dX7_accepts_127 : decode cX7_accepts 127 = .ok (.lastore, 1) := by decide +kernel
theorem dX7_accepts_128 : decode cX7_accepts 128 = .ok (.aload_n 0, 1) := by decide +kernel
theorem dX7_accepts_129 : decode cX7_accepts 129 = .ok (.dup, 1) := by decide +kernel
theorem dX7_accepts_130 : decode cX7_accepts 130 = .ok (.getfield 171, 3) := by decide +kernel
theorem dX7_accepts_133 : decode cX7_accepts 133 = .ok (.iconst 1, 1) := by decide +kernel
theorem dX7_accepts_134 : decode cX7_accepts 134 = .ok (.iadd, 1) := by decide +kernel
theorem dX7_accepts_135 : decode cX7_accepts 135 = .ok (.putfield 171, 3) := by decide +kernel
