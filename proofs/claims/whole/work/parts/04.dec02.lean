theorem dX5_orNewer_0 : decode cX5_orNewer 0 = .ok (.aload_n 1, 1) := by decide +kernel
theorem dX5_orNewer_1 : decode cX5_orNewer 1 = .ok (.getfield 7, 3) := by decide +kernel
theorem dX5_orNewer_4 : decode cX5_orNewer 4 = .ok (.aload_n 0, 1) := by decide +kernel
theorem dX5_orNewer_5 : decode cX5_orNewer 5 = .ok (.getfield 7, 3) := by decide +kernel
theorem dX5_orNewer_8 : decode cX5_orNewer 8 = .ok (.if_icmp .le 7, 3) := by decide +kernel
theorem dX5_orNewer_11 : decode cX5_orNewer 11 = .ok (.aload_n 1, 1) := by decide +kernel
theorem dX5_orNewer_12 : decode cX5_orNewer 12 = .ok (.goto 4, 3) := by decide +kernel
theorem dX5_orNewer_15 : decode cX5_orNewer 15 = .ok (.aload_n 0, 1) := by decide +kernel
theorem dX5_orNewer_16 : decode cX5_orNewer 16 = .ok (.areturn, 1) := by decide +kernel
theorem dX6_init_0 : decode cX6_init 0 = .ok (.aload_n 0, 1) := by decide +kernel
theorem dX6_init_1 : decode cX6_init 1 = .ok (.invokespecial 3, 3) := by decide +kernel
theorem dX6_init_4 : decode cX6_init 4 = .ok (.aload_n 0, 1) := by decide +kernel
theorem dX6_init_5 : decode cX6_init 5 = .ok (.bipush 8, 2) := by decide +kernel
theorem dX6_init_7 : decode cX6_init 7 = .ok (.anewarray 9, 3) := by decide +kernel
theorem dX6_init_10 : decode cX6_init 10 = .ok (.putfield 11, 3) := by decide +kernel
theorem dX6_init_13 : decode cX6_init 13 = .ok (.aload_n 0, 1) := by decide +kernel
theorem dX6_init_14 : decode cX6_init 14 = .ok (.iconst 5, 1) := by decide +kernel
theorem dX6_init_15 : decode cX6_init 15 = .ok (.anewarray 15, 3) := by decide +kernel
theorem dX6_init_18 : decode cX6_init 18 = .ok (.putfield 17, 3) := by decide +kernel
theorem dX6_init_21 : decode cX6_init 21 = .ok (.aload_n 0, 1) := by decide +kernel
theorem dX6_init_22 : decode cX6_init 22 = .ok (.new 21, 3) := by decide +kernel
theorem dX6_init_25 : decode cX6_init 25 = .ok (.dup, 1) := by decide +kernel
theorem dX6_init_26 : decode cX6_init 26 = .ok (.iconst 0, 1) := by decide +kernel
theorem dX6_init_27 : decode cX6_init 27 = .ok (.iconst (-1), 1) := by decide +kernel
theorem dX6_init_28 : decode cX6_init 28 = .ok (.iconst 0, 1) := by decide +kernel
theorem dX6_init_29 : decode cX6_init 29 = .ok (.lconst 0, 1) := by decide +kernel
theorem dX6_init_30 : decode cX6_init 30 = .ok (.invokespecial 23, 3) := by decide +kernel
theorem dX6_init_33 : decode cX6_init 33 = .ok (.putfield 26, 3) := by decide +kernel
theorem dX6_init_36 : decode cX6_init 36 = .ok (.aload_n 0, 1) := by decide +kernel
theorem dX6_init_37 : decode cX6_init 37 = .ok (.new 30, 3) := by decide +kernel
theorem dX6_init_40 : decode cX6_init 40 = .ok (.dup, 1) := by decide +kernel
theorem dX6_init_41 : decode cX6_init 41 = .ok (.aload_n 0, 1) := by decide +kernel
theorem dX6_init_42 : decode cX6_init 42 = .ok (.getfield 26, 3) := by decide +kernel
theorem dX6_init_45 : decode cX6_init 45 = .ok (.invokespecial 32, 3) := by decide +kernel
theorem dX6_init_48 : decode cX6_init 48 = .ok (.putfield 35, 3) := by decide +kernel
theorem dX6_init_51 : decode cX6_init 51 = .ok (.iconst 0, 1) := by decide +kernel
theorem dX6_init_52 : decode cX6_init 52 = .ok (.istore_n 1, 1) := by decide +kernel
theorem dX6_init_53 : decode cX6_init 53 = .ok (.iload_n 1, 1) := by decide +kernel
theorem dX6_init_54 : decode cX6_init 54 = .ok (.bipush 8, 2) := by decide +kernel
theorem dX6_init_56 : decode cX6_init 56 = .ok (.if_icmp .ge 27, 3) := by decide +kernel
theorem dX6_init_59 : decode cX6_init 59 = .ok (.aload_n 0, 1) := by decide +kernel
theorem dX6_init_60 : decode cX6_init 60 = .ok (.getfield 11, 3) := by decide +kernel
theorem dX6_init_63 : decode cX6_init 63 = .ok (.iload_n 1, 1) := by decide +kernel
theorem dX6_init_64 : decode cX6_init 64 = .ok (.new 9, 3) := by decide +kernel
theorem dX6_init_67 : decode cX6_init 67 = .ok (.dup, 1) := by decide +kernel
theorem dX6_init_68 : decode cX6_init 68 = .ok (.iload_n 1, 1) := by decide +kernel
theorem dX6_init_69 : decode cX6_init 69 = .ok (.aload_n 0, 1) := by decide +kernel
theorem dX6_init_70 : decode cX6_init 70 = .ok (.getfield 26, 3) := by decide +kernel
theorem dX6_init_73 : decode cX6_init 73 = .ok (.invokespecial 39, 3) := by decide +kernel
theorem dX6_init_76 : decode cX6_init 76 = .ok (.aastore, 1) := by decide +kernel
theorem dX6_init_77 : decode cX6_init 77 = .ok (.iinc 1 1, 3) := by decide +kernel
theorem dX6_init_80 : decode cX6_init 80 = .ok (.goto (-27), 3) := by decide +kernel
theorem dX6_init_83 : decode cX6_init 83 = .ok (.iconst 0, 1) := by decide +kernel
theorem dX6_init_84 : decode cX6_init 84 = .ok (.istore_n 1, 1) := by decide +kernel
theorem dX6_init_85 : decode cX6_init 85 = .ok (.iload_n 1, 1) := by decide +kernel
theorem dX6_init_86 : decode cX6_init 86 = .ok (.iconst 5, 1) := by decide +kernel
theorem dX6_init_87 : decode cX6_init 87 = .ok (.if_icmp .ge 26, 3) := by decide +kernel
theorem dX6_init_90 : decode cX6_init 90 = .ok (.aload_n 0, 1) := by decide +kernel
theorem dX6_init_91 : decode cX6_init 91 = .ok (.getfield 17, 3) := by decide +kernel
theorem dX6_init_94 : decode cX6_init 94 = .ok (.iload_n 1, 1) := by decide +kernel
theorem dX6_init_95 : decode cX6_init 95 = .ok (.new 15, 3) := by decide +kernel
theorem dX6_init_98 : decode cX6_init 98 = .ok (.dup, 1) := by decide +kernel
theorem dX6_init_99 : decode cX6_init 99 = .ok (.aload_n 0, 1) := by decide +kernel
theorem dX6_init_100 : decode cX6_init 100 = .ok (.getfield 26, 3) := by decide +kernel
theorem dX6_init_103 : decode cX6_init 103 = .ok (.invokespecial 42, 3) := by decide +kernel
theorem dX6_init_106 : decode cX6_init 106 = .ok (.aastore, 1) := by decide +kernel
theorem dX6_init_107 : decode cX6_init 107 = .ok (.iinc 1 1, 3) := by decide +kernel
theorem dX6_init_110 : decode cX6_init 110 = .ok (.goto (-25), 3) := by decide +kernel
theorem dX6_init_113 : decode cX6_init 113 = .ok (.return_, 1) := by decide +kernel
theorem dX6_clock_0 : decode cX6_clock 0 = .ok (.iload_n 1, 1) := by decide +kernel
theorem dX6_clock_1 : decode cX6_clock 1 = .ok (.bipush 8, 2) := by decide +kernel
theorem dX6_clock_3 : decode cX6_clock 3 = .ok (.invokestatic 43, 3) := by decide +kernel
theorem dX6_clock_6 : decode cX6_clock 6 = .ok (.ifCond .ne 13, 3) := by decide +kernel
theorem dX6_clock_9 : decode cX6_clock 9 = .ok (.new 47, 3) := by decide +kernel
theorem dX6_clock_12 : decode cX6_clock 12 = .ok (.dup, 1) := by decide +kernel
theorem dX6_clock_13 : decode cX6_clock 13 = .ok (.ldc 49, 2) := by decide +kernel
theorem dX6_clock_15 : decode cX6_clock 15 = .ok (.invokespecial 51, 3) := by decide +kernel
theorem dX6_clock_18 : decode cX6_clock 18 = .ok (.athrow, 1) := by decide +kernel
theorem dX6_clock_19 : decode cX6_clock 19 = .ok (.lload_n 2, 1) := by decide +kernel
theorem dX6_clock_20 : decode cX6_clock 20 = .ok (.lconst 0, 1) := by decide +kernel
theorem dX6_clock_21 : decode cX6_clock 21 = .ok (.lcmp, 1) := by decide +kernel
theorem dX6_clock_22 : decode cX6_clock 22 = .ok (.ifCond .lt 11, 3) := by decide +kernel
theorem dX6_clock_25 : decode cX6_clock 25 = .ok (.lload_n 2, 1) := by decide +kernel
theorem dX6_clock_26 : decode cX6_clock 26 = .ok (.ldc2_w 54, 3) := by decide +kernel
theorem dX6_clock_29 : decode cX6_clock 29 = .ok (.lcmp, 1) := by decide +kernel
theorem dX6_clock_30 : decode cX6_clock 30 = .ok (.ifCond .le 13, 3) := by decide +kernel
theorem dX6_clock_33 : decode cX6_clock 33 = .ok (.new 56, 3) := by decide +kernel
theorem dX6_clock_36 : decode cX6_clock 36 = .ok (.dup, 1) := by decide +kernel
theorem dX6_clock_37 : decode cX6_clock 37 = .ok (.ldc 58, 2) := by decide +kernel
theorem dX6_clock_39 : decode cX6_clock 39 = .ok (.invokespecial 60, 3) := by decide +kernel
theorem dX6_clock_42 : decode cX6_clock 42 = .ok (.athrow, 1) := by decide +kernel
theorem dX6_clock_43 : decode cX6_clock 43 = .ok (.aload_n 0, 1) := by decide +kernel
theorem dX6_clock_44 : decode cX6_clock 44 = .ok (.getfield 11, 3) := by decide +kernel
theorem dX6_clock_47 : decode cX6_clock 47 = .ok (.iload_n 1, 1) := by decide +kernel
theorem dX6_clock_48 : decode cX6_clock 48 = .ok (.aaload, 1) := by decide +kernel
theorem dX6_clock_49 : decode cX6_clock 49 = .ok (.lload_n 2, 1) := by decide +kernel
theorem dX6_clock_50 : decode cX6_clock 50 = .ok (.putfield 61, 3) := by decide +kernel
theorem dX6_clock_53 : decode cX6_clock 53 = .ok (.return_, 1) := by decide +kernel
theorem dX6_start_0 : decode cX6_start 0 = .ok (.iload_n 1, 1) := by decide +kernel
theorem dX6_start_1 : decode cX6_start 1 = .ok (.bipush 8, 2) := by decide +kernel
theorem dX6_start_3 : decode cX6_start 3 = .ok (.invokestatic 43, 3) := by decide +kernel
theorem dX6_start_6 : decode cX6_start 6 = .ok (.ifCond .ne 13, 3) := by decide +kernel
theorem dX6_start_9 : decode cX6_start 9 = .ok (.new 47, 3) := by decide +kernel
theorem dX6_start_12 : decode cX6_start 12 = .ok (.dup, 1) := by decide +kernel
theorem dX6_start_13 : decode cX6_start 13 = .ok (.ldc 49, 2) := by decide +kernel
theorem dX6_start_15 : decode cX6_start 15 = .ok (.invokespecial 51, 3) := by decide +kernel
theorem dX6_start_18 : decode cX6_start 18 = .ok (.athrow, 1) := by decide +kernel
theorem dX6_start_19 : decode cX6_start 19 = .ok (.aload_n 0, 1) := by decide +kernel
theorem dX6_start_20 : decode cX6_start 20 = .ok (.getfield 11, 3) := by decide +kernel
theorem dX6_start_23 : decode cX6_start 23 = .ok (.iload_n 1, 1) := by decide +kernel
theorem dX6_start_24 : decode cX6_start 24 = .ok (.aaload, 1) := by decide +kernel
theorem dX6_start_25 : decode cX6_start 25 = .ok (.astore_n 2, 1) := by decide +kernel
theorem dX6_start_26 : decode cX6_start 26 = .ok (.aload_n 2, 1) := by decide +kernel
theorem dX6_start_27 : decode cX6_start 27 = .ok (.invokevirtual 65, 3) := by decide +kernel
theorem dX6_start_30 : decode cX6_start 30 = .ok (.ifCond .ne 21, 3) := by decide +kernel
theorem dX6_start_33 : decode cX6_start 33 = .ok (.aload_n 2, 1) := by decide +kernel
theorem dX6_start_34 : decode cX6_start 34 = .ok (.getfield 69, 3) := by decide +kernel
theorem dX6_start_37 : decode cX6_start 37 = .ok (.ifCond .ne 14, 3) := by decide +kernel
theorem dX6_start_40 : decode cX6_start 40 = .ok (.aload_n 0, 1) := by decide +kernel
theorem dX6_start_41 : decode cX6_start 41 = .ok (.getfield 35, 3) := by decide +kernel
theorem dX6_start_44 : decode cX6_start 44 = .ok (.iconst 5, 1) := by decide +kernel
theorem dX6_start_45 : decode cX6_start 45 = .ok (.invokevirtual 73, 3) := by decide +kernel
theorem dX6_start_48 : decode cX6_start 48 = .ok (.ifCond .ne 13, 3) := by decide +kernel
theorem dX6_start_51 : decode cX6_start 51 = .ok (.new 77, 3) := by decide +kernel
theorem dX6_start_54 : decode cX6_start 54 = .ok (.dup, 1) := by decide +kernel
theorem dX6_start_55 : decode cX6_start 55 = .ok (.ldc 79, 2) := by decide +kernel
theorem dX6_start_57 : decode cX6_start 57 = .ok (.invokespecial 81, 3) := by decide +kernel
theorem dX6_start_60 : decode cX6_start 60 = .ok (.athrow, 1) := by decide +kernel
theorem dX6_start_61 : decode cX6_start 61 = .ok (.aload_n 0, 1) := by decide +kernel
theorem dX6_start_62 : decode cX6_start 62 = .ok (.aload_n 2, 1) := by decide +kernel
theorem dX6_start_63 : decode cX6_start 63 = .ok (.invokevirtual 82, 3) := by decide +kernel
theorem dX6_start_66 : decode cX6_start 66 = .ok (.return_, 1) := by decide +kernel
theorem dX6_prolong_0 : decode cX6_prolong 0 = .ok (.iload_n 1, 1) := by decide +kernel
theorem dX6_prolong_1 : decode cX6_prolong 1 = .ok (.bipush 8, 2) := by decide +kernel
theorem dX6_prolong_3 : decode cX6_prolong 3 = .ok (.invokestatic 43, 3) := by decide +kernel
theorem dX6_prolong_6 : decode cX6_prolong 6 = .ok (.ifCond .ne 13, 3) := by decide +kernel
theorem dX6_prolong_9 : decode cX6_prolong 9 = .ok (.new 47, 3) := by decide +kernel
theorem dX6_prolong_12 : decode cX6_prolong 12 = .ok (.dup, 1) := by decide +kernel
theorem dX6_prolong_13 : decode cX6_prolong 13 = .ok (.ldc 49, 2) := by decide +kernel
theorem dX6_prolong_15 : decode cX6_prolong 15 = .ok (.invokespecial 51, 3) := by decide +kernel
theorem dX6_prolong_18 : decode cX6_prolong 18 = .ok (.athrow, 1) := by decide +kernel
theorem dX6_prolong_19 : decode cX6_prolong 19 = .ok (.aload_n 0, 1) := by decide +kernel
theorem dX6_prolong_20 : decode cX6_prolong 20 = .ok (.getfield 11, 3) := by decide +kernel
theorem dX6_prolong_23 : decode cX6_prolong 23 = .ok (.iload_n 1, 1) := by decide +kernel
theorem dX6_prolong_24 : decode cX6_prolong 24 = .ok (.aaload, 1) := by decide +kernel
theorem dX6_prolong_25 : decode cX6_prolong 25 = .ok (.astore_n 2, 1) := by decide +kernel
theorem dX6_prolong_26 : decode cX6_prolong 26 = .ok (.aload_n 2, 1) := by decide +kernel
theorem dX6_prolong_27 : decode cX6_prolong 27 = .ok (.invokevirtual 65, 3) := by decide +kernel
theorem dX6_prolong_30 : decode cX6_prolong 30 = .ok (.ifCond .eq 21, 3) := by decide +kernel
theorem dX6_prolong_33 : decode cX6_prolong 33 = .ok (.aload_n 2, 1) := by decide +kernel
theorem dX6_prolong_34 : decode cX6_prolong 34 = .ok (.getfield 69, 3) := by decide +kernel
theorem dX6_prolong_37 : decode cX6_prolong 37 = .ok (.ifCond .ne 14, 3) := by decide +kernel
theorem dX6_prolong_40 : decode cX6_prolong 40 = .ok (.aload_n 0, 1) := by decide +kernel
theorem dX6_prolong_41 : decode cX6_prolong 41 = .ok (.getfield 35, 3) := by decide +kernel
theorem dX6_prolong_44 : decode cX6_prolong 44 = .ok (.iconst 5, 1) := by decide +kernel
theorem dX6_prolong_45 : decode cX6_prolong 45 = .ok (.invokevirtual 73, 3) := by decide +kernel
theorem dX6_prolong_48 : decode cX6_prolong 48 = .ok (.ifCond .ne 13, 3) := by decide +kernel
theorem dX6_prolong_51 : decode cX6_prolong 51 = .ok (.new 77, 3) := by decide +kernel
theorem dX6_prolong_54 : decode cX6_prolong 54 = .ok (.dup, 1) := by decide +kernel
theorem dX6_prolong_55 : decode cX6_prolong 55 = .ok (.ldc 86, 2) := by decide +kernel
theorem dX6_prolong_57 : decode cX6_prolong 57 = .ok (.invokespecial 81, 3) := by decide +kernel
theorem dX6_prolong_60 : decode cX6_prolong 60 = .ok (.athrow, 1) := by decide +kernel
theorem dX6_prolong_61 : decode cX6_prolong 61 = .ok (.aload_n 0, 1) := by decide +kernel
theorem dX6_prolong_62 : decode cX6_prolong 62 = .ok (.aload_n 2, 1) := by decide +kernel
theorem dX6_prolong_63 : decode cX6_prolong 63 = .ok (.invokevirtual 82, 3) := by decide +kernel
theorem dX6_prolong_66 : decode cX6_prolong 66 = .ok (.return_, 1) := by decide +kernel
theorem dX6_crash_0 : decode cX6_crash 0 = .ok (.iload_n 1, 1) := by decide +kernel
theorem dX6_crash_1 : decode cX6_crash 1 = .ok (.bipush 8, 2) := by decide +kernel
theorem dX6_crash_3 : decode cX6_crash 3 = .ok (.invokestatic 43, 3) := by decide +kernel
theorem dX6_crash_6 : decode cX6_crash 6 = .ok (.ifCond .ne 13, 3) := by decide +kernel
theorem dX6_crash_9 : decode cX6_crash 9 = .ok (.new 47, 3) := by decide +kernel
theorem dX6_crash_12 : decode cX6_crash 12 = .ok (.dup, 1) := by decide +kernel
theorem dX6_crash_13 : decode cX6_crash 13 = .ok (.ldc 49, 2) := by decide +kernel
theorem dX6_crash_15 : decode cX6_crash 15 = .ok (.invokespecial 51, 3) := by decide +kernel
theorem dX6_crash_18 : decode cX6_crash 18 = .ok (.athrow, 1) := by decide +kernel
theorem dX6_crash_19 : decode cX6_crash 19 = .ok (.aload_n 0, 1) := by decide +kernel
theorem dX6_crash_20 : decode cX6_crash 20 = .ok (.getfield 11, 3) := by decide +kernel
theorem dX6_crash_23 : decode cX6_crash 23 = .ok (.iload_n 1, 1) := by decide +kernel
theorem dX6_crash_24 : decode cX6_crash 24 = .ok (.aaload, 1) := by decide +kernel
theorem dX6_crash_25 : decode cX6_crash 25 = .ok (.invokevirtual 88, 3) := by decide +kernel
theorem dX6_crash_28 : decode cX6_crash 28 = .ok (.return_, 1) := by decide +kernel
theorem dX6_node_0 : decode cX6_node 0 = .ok (.iload_n 1, 1) := by decide +kernel
theorem dX6_node_1 : decode cX6_node 1 = .ok (.iconst 5, 1) := by decide +kernel
theorem dX6_node_2 : decode cX6_node 2 = .ok (.invokestatic 43, 3) := by decide +kernel
theorem dX6_node_5 : decode cX6_node 5 = .ok (.ifCond .ne 13, 3) := by decide +kernel
theorem dX6_node_8 : decode cX6_node 8 = .ok (.new 47, 3) := by decide +kernel
theorem dX6_node_11 : decode cX6_node 11 = .ok (.dup, 1) := by decide +kernel
theorem dX6_node_12 : decode cX6_node 12 = .ok (.ldc 91, 2) := by decide +kernel
theorem dX6_node_14 : decode cX6_node 14 = .ok (.invokespecial 51, 3) := by decide +kernel
theorem dX6_node_17 : decode cX6_node 17 = .ok (.athrow, 1) := by decide +kernel
theorem dX6_node_18 : decode cX6_node 18 = .ok (.aload_n 0, 1) := by decide +kernel
theorem dX6_node_19 : decode cX6_node 19 = .ok (.getfield 17, 3) := by decide +kernel
theorem dX6_node_22 : decode cX6_node 22 = .ok (.iload_n 1, 1) := by decide +kernel
theorem dX6_node_23 : decode cX6_node 23 = .ok (.aaload, 1) := by decide +kernel
theorem dX6_node_24 : decode cX6_node 24 = .ok (.iload_n 2, 1) := by decide +kernel
theorem dX6_node_25 : decode cX6_node 25 = .ok (.putfield 93, 3) := by decide +kernel
theorem dX6_node_28 : decode cX6_node 28 = .ok (.return_, 1) := by decide +kernel
theorem dX6_letters_0 : decode cX6_letters 0 = .ok (.aload_n 0, 1) := by decide +kernel
theorem dX6_letters_1 : decode cX6_letters 1 = .ok (.getfield 35, 3) := by decide +kernel
theorem dX6_letters_4 : decode cX6_letters 4 = .ok (.getfield 97, 3) := by decide +kernel
theorem dX6_letters_7 : decode cX6_letters 7 = .ok (.ireturn, 1) := by decide +kernel
theorem dX6_deliver_0 : decode cX6_deliver 0 = .ok (.iload_n 1, 1) := by decide +kernel
theorem dX6_deliver_1 : decode cX6_deliver 1 = .ok (.aload_n 0, 1) := by decide +kernel
theorem dX6_deliver_2 : decode cX6_deliver 2 = .ok (.getfield 35, 3) := by decide +kernel
theorem dX6_deliver_5 : decode cX6_deliver 5 = .ok (.getfield 97, 3) := by decide +kernel
theorem dX6_deliver_8 : decode cX6_deliver 8 = .ok (.invokestatic 43, 3) := by decide +kernel
theorem dX6_deliver_11 : decode cX6_deliver 11 = .ok (.ifCond .ne 13, 3) := by decide +kernel
theorem dX6_deliver_14 : decode cX6_deliver 14 = .ok (.new 47, 3) := by decide +kernel
theorem dX6_deliver_17 : decode cX6_deliver 17 = .ok (.dup, 1) := by decide +kernel
theorem dX6_deliver_18 : decode cX6_deliver 18 = .ok (.ldc 100, 2) := by decide +kernel
theorem dX6_deliver_20 : decode cX6_deliver 20 = .ok (.invokespecial 51, 3) := by decide +kernel
theorem dX6_deliver_23 : decode cX6_deliver 23 = .ok (.athrow, 1) := by decide +kernel
theorem dX6_deliver_24 : decode cX6_deliver 24 = .ok (.aload_n 0, 1) := by decide +kernel
theorem dX6_deliver_25 : decode cX6_deliver 25 = .ok (.getfield 35, 3) := by decide +kernel
theorem dX6_deliver_28 : decode cX6_deliver 28 = .ok (.iload_n 1, 1) := by decide +kernel
theorem dX6_deliver_29 : decode cX6_deliver 29 = .ok (.invokevirtual 102, 3) := by decide +kernel
theorem dX6_deliver_32 : decode cX6_deliver 32 = .ok (.astore_n 2, 1) := by decide +kernel
theorem dX6_deliver_33 : decode cX6_deliver 33 = .ok (.aload_n 2, 1) := by decide +kernel
theorem dX6_deliver_34 : decode cX6_deliver 34 = .ok (.invokevirtual 106, 3) := by decide +kernel
theorem dX6_deliver_37 : decode cX6_deliver 37 = .ok (.ifCond .eq 17, 3) := by decide +kernel
theorem dX6_deliver_40 : decode cX6_deliver 40 = .ok (.aload_n 0, 1) := by decide +kernel
theorem dX6_deliver_41 : decode cX6_deliver 41 = .ok (.getfield 35, 3) := by decide +kernel
theorem dX6_deliver_44 : decode cX6_deliver 44 = .ok (.iload_n 1, 1) := by decide +kernel
theorem dX6_deliver_45 : decode cX6_deliver 45 = .ok (.invokevirtual 111, 3) := by decide +kernel
theorem dX6_deliver_48 : decode cX6_deliver 48 = .ok (.aload_n 0, 1) := by decide +kernel
theorem dX6_deliver_49 : decode cX6_deliver 49 = .ok (.aload_n 2, 1) := by decide +kernel
theorem dX6_deliver_50 : decode cX6_deliver 50 = .ok (.invokevirtual 115, 3) := by decide +kernel
theorem dX6_deliver_53 : decode cX6_deliver 53 = .ok (.ireturn, 1) := by decide +kernel
theorem dX6_deliver_54 : decode cX6_deliver 54 = .ok (.aload_n 0, 1) := by decide +kernel
theorem dX6_deliver_55 : decode cX6_deliver 55 = .ok (.getfield 11, 3) := by decide +kernel
theorem dX6_deliver_58 : decode cX6_deliver 58 = .ok (.aload_n 2, 1) := by decide +kernel
theorem dX6_deliver_59 : decode cX6_deliver 59 = .ok (.getfield 119, 3) := by decide +kernel
theorem dX6_deliver_62 : decode cX6_deliver 62 = .ok (.aaload, 1) := by decide +kernel
theorem dX6_deliver_63 : decode cX6_deliver 63 = .ok (.astore_n 3, 1) := by decide +kernel
theorem dX6_deliver_64 : decode cX6_deliver 64 = .ok (.aload_n 3, 1) := by decide +kernel
theorem dX6_deliver_65 : decode cX6_deliver 65 = .ok (.aload_n 2, 1) := by decide +kernel
theorem dX6_deliver_66 : decode cX6_deliver 66 = .ok (.invokevirtual 122, 3) := by decide +kernel
theorem dX6_deliver_69 : decode cX6_deliver 69 = .ok (.ifCond .eq 10, 3) := by decide +kernel
theorem dX6_deliver_72 : decode cX6_deliver 72 = .ok (.aload_n 0, 1) := by decide +kernel
theorem dX6_deliver_73 : decode cX6_deliver 73 = .ok (.aload_n 3, 1) := by decide +kernel
theorem dX6_deliver_74 : decode cX6_deliver 74 = .ok (.iload_n 1, 1) := by decide +kernel
theorem dX6_deliver_75 : decode cX6_deliver 75 = .ok (.invokevirtual 126, 3) := by decide +kernel
theorem dX6_deliver_78 : decode cX6_deliver 78 = .ok (.ireturn, 1) := by decide +kernel
theorem dX6_deliver_79 : decode cX6_deliver 79 = .ok (.aload_n 0, 1) := by decide +kernel
theorem dX6_deliver_80 : decode cX6_deliver 80 = .ok (.getfield 35, 3) := by decide +kernel
theorem dX6_deliver_83 : decode cX6_deliver 83 = .ok (.iload_n 1, 1) := by decide +kernel
theorem dX6_deliver_84 : decode cX6_deliver 84 = .ok (.invokevirtual 111, 3) := by decide +kernel
theorem dX6_deliver_87 : decode cX6_deliver 87 = .ok (.aload_n 3, 1) := by decide +kernel
theorem dX6_deliver_88 : decode cX6_deliver 88 = .ok (.aload_n 2, 1) := by decide +kernel
theorem dX6_deliver_89 : decode cX6_deliver 89 = .ok (.invokevirtual 130, 3) := by decide +kernel
theorem dX6_deliver_92 : decode cX6_deliver 92 = .ok (.iconst 0, 1) := by decide +kernel
theorem dX6_deliver_93 : decode cX6_deliver 93 = .ok (.ireturn, 1) := by decide +kernel
theorem dX6_lose_0 : decode cX6_lose 0 = .ok (.iload_n 1, 1) := by decide +kernel
theorem dX6_lose_1 : decode cX6_lose 1 = .ok (.aload_n 0, 1) := by decide +kernel
theorem dX6_lose_2 : decode cX6_lose 2 = .ok (.getfield 35, 3) := by decide +kernel
theorem dX6_lose_5 : decode cX6_lose 5 = .ok (.getfield 97, 3) := by decide +kernel
theorem dX6_lose_8 : decode cX6_lose 8 = .ok (.invokestatic 43, 3) := by decide +kernel
theorem dX6_lose_11 : decode cX6_lose 11 = .ok (.ifCond .ne 13, 3) := by decide +kernel
theorem dX6_lose_14 : decode cX6_lose 14 = .ok (.new 47, 3) := by decide +kernel
theorem dX6_lose_17 : decode cX6_lose 17 = .ok (.dup, 1) := by decide +kernel
theorem dX6_lose_18 : decode cX6_lose 18 = .ok (.ldc 100, 2) := by decide +kernel
theorem dX6_lose_20 : decode cX6_lose 20 = .ok (.invokespecial 51, 3) := by decide +kernel
theorem dX6_lose_23 : decode cX6_lose 23 = .ok (.athrow, 1) := by decide +kernel
theorem dX6_lose_24 : decode cX6_lose 24 = .ok (.aload_n 0, 1) := by decide +kernel
theorem dX6_lose_25 : decode cX6_lose 25 = .ok (.getfield 35, 3) := by decide +kernel
theorem dX6_lose_28 : decode cX6_lose 28 = .ok (.iload_n 1, 1) := by decide +kernel
theorem dX6_lose_29 : decode cX6_lose 29 = .ok (.invokevirtual 111, 3) := by decide +kernel
theorem dX6_lose_32 : decode cX6_lose 32 = .ok (.return_, 1) := by decide +kernel
theorem dX6_twin_0 : decode cX6_twin 0 = .ok (.iload_n 1, 1) := by decide +kernel
theorem dX6_twin_1 : decode cX6_twin 1 = .ok (.aload_n 0, 1) := by decide +kernel
theorem dX6_twin_2 : decode cX6_twin 2 = .ok (.getfield 35, 3) := by decide +kernel
theorem dX6_twin_5 : decode cX6_twin 5 = .ok (.getfield 97, 3) := by decide +kernel
theorem dX6_twin_8 : decode cX6_twin 8 = .ok (.invokestatic 43, 3) := by decide +kernel
theorem dX6_twin_11 : decode cX6_twin 11 = .ok (.ifCond .ne 13, 3) := by decide +kernel
theorem dX6_twin_14 : decode cX6_twin 14 = .ok (.new 47, 3) := by decide +kernel
theorem dX6_twin_17 : decode cX6_twin 17 = .ok (.dup, 1) := by decide +kernel
theorem dX6_twin_18 : decode cX6_twin 18 = .ok (.ldc 100, 2) := by decide +kernel
theorem dX6_twin_20 : decode cX6_twin 20 = .ok (.invokespecial 51, 3) := by decide +kernel
theorem dX6_twin_23 : decode cX6_twin 23 = .ok (.athrow, 1) := by decide +kernel
theorem dX6_twin_24 : decode cX6_twin 24 = .ok (.aload_n 0, 1) := by decide +kernel
theorem dX6_twin_25 : decode cX6_twin 25 = .ok (.getfield 35, 3) := by decide +kernel
theorem dX6_twin_28 : decode cX6_twin 28 = .ok (.iconst 1, 1) := by decide +kernel
theorem dX6_twin_29 : decode cX6_twin 29 = .ok (.invokevirtual 73, 3) := by decide +kernel
theorem dX6_twin_32 : decode cX6_twin 32 = .ok (.ifCond .ne 13, 3) := by decide +kernel
theorem dX6_twin_35 : decode cX6_twin 35 = .ok (.new 77, 3) := by decide +kernel
theorem dX6_twin_38 : decode cX6_twin 38 = .ok (.dup, 1) := by decide +kernel
theorem dX6_twin_39 : decode cX6_twin 39 = .ok (.ldc 134, 2) := by decide +kernel
theorem dX6_twin_41 : decode cX6_twin 41 = .ok (.invokespecial 81, 3) := by decide +kernel
theorem dX6_twin_44 : decode cX6_twin 44 = .ok (.athrow, 1) := by decide +kernel
theorem dX6_twin_45 : decode cX6_twin 45 = .ok (.aload_n 0, 1) := by decide +kernel
theorem dX6_twin_46 : decode cX6_twin 46 = .ok (.getfield 35, 3) := by decide +kernel
theorem dX6_twin_49 : decode cX6_twin 49 = .ok (.iload_n 1, 1) := by decide +kernel
theorem dX6_twin_50 : decode cX6_twin 50 = .ok (.invokevirtual 136, 3) := by decide +kernel
theorem dX6_twin_53 : decode cX6_twin 53 = .ok (.return_, 1) := by decide +kernel
theorem dX6_letter_0 : decode cX6_letter 0 = .ok (.iload_n 1, 1) := by decide +kernel
theorem dX6_letter_1 : decode cX6_letter 1 = .ok (.aload_n 0, 1) := by decide +kernel
theorem dX6_letter_2 : decode cX6_letter 2 = .ok (.getfield 35, 3) := by decide +kernel
theorem dX6_letter_5 : decode cX6_letter 5 = .ok (.getfield 97, 3) := by decide +kernel
theorem dX6_letter_8 : decode cX6_letter 8 = .ok (.invokestatic 43, 3) := by decide +kernel
theorem dX6_letter_11 : decode cX6_letter 11 = .ok (.ifCond .eq 12, 3) := by decide +kernel
theorem dX6_letter_14 : decode cX6_letter 14 = .ok (.iload_n 2, 1) := by decide +kernel
theorem dX6_letter_15 : decode cX6_letter 15 = .ok (.bipush 6, 2) := by decide +kernel
theorem dX6_letter_17 : decode cX6_letter 17 = .ok (.invokestatic 43, 3) := by decide +kernel
theorem dX6_letter_20 : decode cX6_letter 20 = .ok (.ifCond .ne 13, 3) := by decide +kernel
theorem dX6_letter_23 : decode cX6_letter 23 = .ok (.new 47, 3) := by decide +kernel
theorem dX6_letter_26 : decode cX6_letter 26 = .ok (.dup, 1) := by decide +kernel
theorem dX6_letter_27 : decode cX6_letter 27 = .ok (.ldc 139, 2) := by decide +kernel
theorem dX6_letter_29 : decode cX6_letter 29 = .ok (.invokespecial 51, 3) := by decide +kernel
theorem dX6_letter_32 : decode cX6_letter 32 = .ok (.athrow, 1) := by decide +kernel
theorem dX6_letter_33 : decode cX6_letter 33 = .ok (.aload_n 0, 1) := by decide +kernel
theorem dX6_letter_34 : decode cX6_letter 34 = .ok (.getfield 35, 3) := by decide +kernel
theorem dX6_letter_37 : decode cX6_letter 37 = .ok (.iload_n 1, 1) := by decide +kernel
theorem dX6_letter_38 : decode cX6_letter 38 = .ok (.invokevirtual 102, 3) := by decide +kernel
theorem dX6_letter_41 : decode cX6_letter 41 = .ok (.astore_n 3, 1) := by decide +kernel
theorem dX6_letter_42 : decode cX6_letter 42 = .ok (.iload_n 2, 1) := by decide +kernel
theorem dX6_letter_43 : decode cX6_letter 43 = .ok (.tableswitch 58 0 4 #[33, 38, 43, 48, 53], 33) := by decide +kernel
theorem dX6_letter_76 : decode cX6_letter 76 = .ok (.aload_n 3, 1) := by decide +kernel
theorem dX6_letter_77 : decode cX6_letter 77 = .ok (.getfield 141, 3) := by decide +kernel
theorem dX6_letter_80 : decode cX6_letter 80 = .ok (.ireturn, 1) := by decide +kernel
theorem dX6_letter_81 : decode cX6_letter 81 = .ok (.aload_n 3, 1) := by decide +kernel
theorem dX6_letter_82 : decode cX6_letter 82 = .ok (.getfield 119, 3) := by decide +kernel
theorem dX6_letter_85 : decode cX6_letter 85 = .ok (.ireturn, 1) := by decide +kernel
theorem dX6_letter_86 : decode cX6_letter 86 = .ok (.aload_n 3, 1) := by decide +kernel
theorem dX6_letter_87 : decode cX6_letter 87 = .ok (.getfield 144, 3) := by decide +kernel
theorem dX6_letter_90 : decode cX6_letter 90 = .ok (.ireturn, 1) := by decide +kernel
theorem dX6_letter_91 : decode cX6_letter 91 = .ok (.aload_n 3, 1) := by decide +kernel
theorem dX6_letter_92 : decode cX6_letter 92 = .ok (.getfield 147, 3) := by decide +kernel
theorem dX6_letter_95 : decode cX6_letter 95 = .ok (.ireturn, 1) := by decide +kernel
theorem dX6_letter_96 : decode cX6_letter 96 = .ok (.aload_n 3, 1) := by decide +kernel
theorem dX6_letter_97 : decode cX6_letter 97 = .ok (.getfield 150, 3) := by decide +kernel
theorem dX6_letter_100 : decode cX6_letter 100 = .ok (.ireturn, 1) := by decide +kernel
theorem dX6_letter_101 : decode cX6_letter 101 = .ok (.aload_n 3, 1) := by decide +kernel
theorem dX6_letter_102 : decode cX6_letter 102 = .ok (.getfield 153, 3) := by decide +kernel
theorem dX6_letter_105 : decode cX6_letter 105 = .ok (.ireturn, 1) := by decide +kernel
theorem dX6_issuer_0 : decode cX6_issuer 0 = .ok (.iload_n 1, 1) := by decide +kernel
theorem dX6_issuer_1 : decode cX6_issuer 1 = .ok (.bipush 8, 2) := by decide +kernel
theorem dX6_issuer_3 : decode cX6_issuer 3 = .ok (.invokestatic 43, 3) := by decide +kernel
theorem dX6_issuer_6 : decode cX6_issuer 6 = .ok (.ifCond .eq 12, 3) := by decide +kernel
theorem dX6_issuer_9 : decode cX6_issuer 9 = .ok (.iload_n 2, 1) := by decide +kernel
theorem dX6_issuer_10 : decode cX6_issuer 10 = .ok (.bipush 8, 2) := by decide +kernel
theorem dX6_issuer_12 : decode cX6_issuer 12 = .ok (.invokestatic 43, 3) := by decide +kernel
theorem dX6_issuer_15 : decode cX6_issuer 15 = .ok (.ifCond .ne 13, 3) := by decide +kernel
theorem dX6_issuer_18 : decode cX6_issuer 18 = .ok (.new 47, 3) := by decide +kernel
theorem dX6_issuer_21 : decode cX6_issuer 21 = .ok (.dup, 1) := by decide +kernel
theorem dX6_issuer_22 : decode cX6_issuer 22 = .ok (.ldc 156, 2) := by decide +kernel
theorem dX6_issuer_24 : decode cX6_issuer 24 = .ok (.invokespecial 51, 3) := by decide +kernel
theorem dX6_issuer_27 : decode cX6_issuer 27 = .ok (.athrow, 1) := by decide +kernel
theorem dX6_issuer_28 : decode cX6_issuer 28 = .ok (.aload_n 0, 1) := by decide +kernel
theorem dX6_issuer_29 : decode cX6_issuer 29 = .ok (.getfield 11, 3) := by decide +kernel
theorem dX6_issuer_32 : decode cX6_issuer 32 = .ok (.iload_n 1, 1) := by decide +kernel
theorem dX6_issuer_33 : decode cX6_issuer 33 = .ok (.aaload, 1) := by decide +kernel
theorem dX6_issuer_34 : decode cX6_issuer 34 = .ok (.astore_n 3, 1) := by decide +kernel
theorem dX6_issuer_35 : decode cX6_issuer 35 = .ok (.iload_n 2, 1) := by decide +kernel
theorem dX6_issuer_36 : decode cX6_issuer 36 = .ok (.tableswitch 78 0 7 #[48, 61, 78, 78, 78, 78, 67, 73], 48) := by decide +kernel
theorem dX6_issuer_84 : decode cX6_issuer 84 = .ok (.aload_n 3, 1) := by decide +kernel
theorem dX6_issuer_85 : decode cX6_issuer 85 = .ok (.invokevirtual 65, 3) := by decide +kernel
theorem dX6_issuer_88 : decode cX6_issuer 88 = .ok (.ifCond .eq 7, 3) := by decide +kernel
theorem dX6_issuer_91 : decode cX6_issuer 91 = .ok (.lconst 1, 1) := by decide +kernel
theorem dX6_issuer_92 : decode cX6_issuer 92 = .ok (.goto 4, 3) := by decide +kernel
theorem dX6_issuer_95 : decode cX6_issuer 95 = .ok (.lconst 0, 1) := by decide +kernel
theorem dX6_issuer_96 : decode cX6_issuer 96 = .ok (.lreturn, 1) := by decide +kernel
theorem dX6_issuer_97 : decode cX6_issuer 97 = .ok (.aload_n 3, 1) := by decide +kernel
theorem dX6_issuer_98 : decode cX6_issuer 98 = .ok (.getfield 69, 3) := by decide +kernel
theorem dX6_issuer_101 : decode cX6_issuer 101 = .ok (.i2l, 1) := by decide +kernel
theorem dX6_issuer_102 : decode cX6_issuer 102 = .ok (.lreturn, 1) := by decide +kernel
theorem dX6_issuer_103 : decode cX6_issuer 103 = .ok (.aload_n 3, 1) := by decide +kernel
theorem dX6_issuer_104 : decode cX6_issuer 104 = .ok (.getfield 158, 3) := by decide +kernel
theorem dX6_issuer_107 : decode cX6_issuer 107 = .ok (.i2l, 1) := by decide +kernel
theorem dX6_issuer_108 : decode cX6_issuer 108 = .ok (.lreturn, 1) := by decide +kernel
theorem dX6_issuer_109 : decode cX6_issuer 109 = .ok (.aload_n 3, 1) := by decide +kernel
theorem dX6_issuer_110 : decode cX6_issuer 110 = .ok (.getfield 161, 3) := by decide +kernel
theorem dX6_issuer_113 : decode cX6_issuer 113 = .ok (.lreturn, 1) := by decide +kernel
theorem dX6_issuer_114 : decode cX6_issuer 114 = .ok (.aload_n 3, 1) := by decide +kernel
theorem dX6_issuer_115 : decode cX6_issuer 115 = .ok (.iload_n 2, 1) := by decide +kernel
theorem dX6_issuer_116 : decode cX6_issuer 116 = .ok (.invokevirtual 164, 3) := by decide +kernel
theorem dX6_issuer_119 : decode cX6_issuer 119 = .ok (.lreturn, 1) := by decide +kernel
theorem dX6_next_0 : decode cX6_next 0 = .ok (.iload_n 1, 1) := by decide +kernel
theorem dX6_next_1 : decode cX6_next 1 = .ok (.bipush 8, 2) := by decide +kernel
theorem dX6_next_3 : decode cX6_next 3 = .ok (.invokestatic 43, 3) := by decide +kernel
theorem dX6_next_6 : decode cX6_next 6 = .ok (.ifCond .ne 13, 3) := by decide +kernel
theorem dX6_next_9 : decode cX6_next 9 = .ok (.new 47, 3) := by decide +kernel
theorem dX6_next_12 : decode cX6_next 12 = .ok (.dup, 1) := by decide +kernel
theorem dX6_next_13 : decode cX6_next 13 = .ok (.ldc 49, 2) := by decide +kernel
theorem dX6_next_15 : decode cX6_next 15 = .ok (.invokespecial 51, 3) := by decide +kernel
theorem dX6_next_18 : decode cX6_next 18 = .ok (.athrow, 1) := by decide +kernel
theorem dX6_next_19 : decode cX6_next 19 = .ok (.aload_n 0, 1) := by decide +kernel
theorem dX6_next_20 : decode cX6_next 20 = .ok (.getfield 11, 3) := by decide +kernel
theorem dX6_next_23 : decode cX6_next 23 = .ok (.iload_n 1, 1) := by decide +kernel
theorem dX6_next_24 : decode cX6_next 24 = .ok (.aaload, 1) := by decide +kernel
theorem dX6_next_25 : decode cX6_next 25 = .ok (.iconst 1, 1) := by decide +kernel
theorem dX6_next_26 : decode cX6_next 26 = .ok (.invokevirtual 168, 3) := by decide +kernel
theorem dX6_next_29 : decode cX6_next 29 = .ok (.lreturn, 1) := by decide +kernel
theorem dX6_batch_0 : decode cX6_batch 0 = .ok (.iload_n 1, 1) := by decide +kernel
theorem dX6_batch_1 : decode cX6_batch 1 = .ok (.bipush 8, 2) := by decide +kernel
theorem dX6_batch_3 : decode cX6_batch 3 = .ok (.invokestatic 43, 3) := by decide +kernel
theorem dX6_batch_6 : decode cX6_batch 6 = .ok (.ifCond .ne 13, 3) := by decide +kernel
theorem dX6_batch_9 : decode cX6_batch 9 = .ok (.new 47, 3) := by decide +kernel
theorem dX6_batch_12 : decode cX6_batch 12 = .ok (.dup, 1) := by decide +kernel
theorem dX6_batch_13 : decode cX6_batch 13 = .ok (.ldc 49, 2) := by decide +kernel
theorem dX6_batch_15 : decode cX6_batch 15 = .ok (.invokespecial 51, 3) := by decide +kernel
