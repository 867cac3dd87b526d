theorem dX1_give_10 : decode cX1_give 10 = .ok (.getfield 121, 3) := by decide +kernel
theorem dX1_give_13 : decode cX1_give 13 = .ok (.aload_n 0, 1) := by decide +kernel
theorem dX1_give_14 : decode cX1_give 14 = .ok (.getfield 34, 3) := by decide +kernel
theorem dX1_give_17 : decode cX1_give 17 = .ok (.getfield 153, 3) := by decide +kernel
theorem dX1_give_20 : decode cX1_give 20 = .ok (.invokestatic 127, 3) := by decide +kernel
theorem dX1_give_23 : decode cX1_give 23 = .ok (.aload_n 0, 1) := by decide +kernel
theorem dX1_give_24 : decode cX1_give 24 = .ok (.getfield 23, 3) := by decide +kernel
theorem dX1_give_27 : decode cX1_give 27 = .ok (.invokestatic 127, 3) := by decide +kernel
theorem dX1_give_30 : decode cX1_give 30 = .ok (.lstore_n 2, 1) := by decide +kernel
theorem dX1_give_31 : decode cX1_give 31 = .ok (.lload_n 2, 1) := by decide +kernel
theorem dX1_give_32 : decode cX1_give 32 = .ok (.aload_n 0, 1) := by decide +kernel
theorem dX1_give_33 : decode cX1_give 33 = .ok (.getfield 23, 3) := by decide +kernel
theorem dX1_give_36 : decode cX1_give 36 = .ok (.lcmp, 1) := by decide +kernel
theorem dX1_give_37 : decode cX1_give 37 = .ok (.ifCond .ne 12, 3) := by decide +kernel
theorem dX1_give_40 : decode cX1_give 40 = .ok (.aload_n 0, 1) := by decide +kernel
theorem dX1_give_41 : decode cX1_give 41 = .ok (.getfield 66, 3) := by decide +kernel
theorem dX1_give_44 : decode cX1_give 44 = .ok (.iconst 1, 1) := by decide +kernel
theorem dX1_give_45 : decode cX1_give 45 = .ok (.iadd, 1) := by decide +kernel
theorem dX1_give_46 : decode cX1_give 46 = .ok (.goto 4, 3) := by decide +kernel
theorem dX1_give_49 : decode cX1_give 49 = .ok (.iconst 0, 1) := by decide +kernel
theorem dX1_give_50 : decode cX1_give 50 = .ok (.istore 4, 2) := by decide +kernel
theorem dX1_give_52 : decode cX1_give 52 = .ok (.iload 4, 2) := by decide +kernel
theorem dX1_give_54 : decode cX1_give 54 = .ok (.iload_n 1, 1) := by decide +kernel
theorem dX1_give_55 : decode cX1_give 55 = .ok (.iadd, 1) := by decide +kernel
theorem dX1_give_56 : decode cX1_give 56 = .ok (.sipush 1024, 3) := by decide +kernel
theorem dX1_give_59 : decode cX1_give 59 = .ok (.if_icmp .le 10, 3) := by decide +kernel
theorem dX1_give_62 : decode cX1_give 62 = .ok (.lload_n 2, 1) := by decide +kernel
theorem dX1_give_63 : decode cX1_give 63 = .ok (.lconst 1, 1) := by decide +kernel
theorem dX1_give_64 : decode cX1_give 64 = .ok (.ladd, 1) := by decide +kernel
theorem dX1_give_65 : decode cX1_give 65 = .ok (.lstore_n 2, 1) := by decide +kernel
theorem dX1_give_66 : decode cX1_give 66 = .ok (.iconst 0, 1) := by decide +kernel
theorem dX1_give_67 : decode cX1_give 67 = .ok (.istore 4, 2) := by decide +kernel
theorem dX1_give_69 : decode cX1_give 69 = .ok (.lload_n 2, 1) := by decide +kernel
theorem dX1_give_70 : decode cX1_give 70 = .ok (.aload_n 0, 1) := by decide +kernel
theorem dX1_give_71 : decode cX1_give 71 = .ok (.getfield 34, 3) := by decide +kernel
theorem dX1_give_74 : decode cX1_give 74 = .ok (.getfield 134, 3) := by decide +kernel
theorem dX1_give_77 : decode cX1_give 77 = .ok (.getfield 124, 3) := by decide +kernel
theorem dX1_give_80 : decode cX1_give 80 = .ok (.lcmp, 1) := by decide +kernel
theorem dX1_give_81 : decode cX1_give 81 = .ok (.ifCond .gt 16, 3) := by decide +kernel
theorem dX1_give_84 : decode cX1_give 84 = .ok (.lload_n 2, 1) := by decide +kernel
theorem dX1_give_85 : decode cX1_give 85 = .ok (.aload_n 0, 1) := by decide +kernel
theorem dX1_give_86 : decode cX1_give 86 = .ok (.getfield 121, 3) := by decide +kernel
theorem dX1_give_89 : decode cX1_give 89 = .ok (.ldc2_w 156, 3) := by decide +kernel
theorem dX1_give_92 : decode cX1_give 92 = .ok (.ladd, 1) := by decide +kernel
theorem dX1_give_93 : decode cX1_give 93 = .ok (.lcmp, 1) := by decide +kernel
theorem dX1_give_94 : decode cX1_give 94 = .ok (.ifCond .le 5, 3) := by decide +kernel
theorem dX1_give_97 : decode cX1_give 97 = .ok (.lconst 0, 1) := by decide +kernel
theorem dX1_give_98 : decode cX1_give 98 = .ok (.lreturn, 1) := by decide +kernel
theorem dX1_give_99 : decode cX1_give 99 = .ok (.aload_n 0, 1) := by decide +kernel
theorem dX1_give_100 : decode cX1_give 100 = .ok (.lload_n 2, 1) := by decide +kernel
theorem dX1_give_101 : decode cX1_give 101 = .ok (.putfield 23, 3) := by decide +kernel
theorem dX1_give_104 : decode cX1_give 104 = .ok (.aload_n 0, 1) := by decide +kernel
theorem dX1_give_105 : decode cX1_give 105 = .ok (.iload 4, 2) := by decide +kernel
theorem dX1_give_107 : decode cX1_give 107 = .ok (.iload_n 1, 1) := by decide +kernel
theorem dX1_give_108 : decode cX1_give 108 = .ok (.iadd, 1) := by decide +kernel
theorem dX1_give_109 : decode cX1_give 109 = .ok (.iconst 1, 1) := by decide +kernel
theorem dX1_give_110 : decode cX1_give 110 = .ok (.isub, 1) := by decide +kernel
theorem dX1_give_111 : decode cX1_give 111 = .ok (.putfield 66, 3) := by decide +kernel
theorem dX1_give_114 : decode cX1_give 114 = .ok (.aload_n 0, 1) := by decide +kernel
theorem dX1_give_115 : decode cX1_give 115 = .ok (.dup, 1) := by decide +kernel
theorem dX1_give_116 : decode cX1_give 116 = .ok (.getfield 158, 3) := by decide +kernel
theorem dX1_give_119 : decode cX1_give 119 = .ok (.iload_n 1, 1) := by decide +kernel
theorem dX1_give_120 : decode cX1_give 120 = .ok (.i2l, 1) := by decide +kernel
theorem dX1_give_121 : decode cX1_give 121 = .ok (.ladd, 1) := by decide +kernel
theorem dX1_give_122 : decode cX1_give 122 = .ok (.putfield 158, 3) := by decide +kernel
theorem dX1_give_125 : decode cX1_give 125 = .ok (.lload_n 2, 1) := by decide +kernel
theorem dX1_give_126 : decode cX1_give 126 = .ok (.bipush 23, 2) := by decide +kernel
theorem dX1_give_128 : decode cX1_give 128 = .ok (.lshl, 1) := by decide +kernel
theorem dX1_give_129 : decode cX1_give 129 = .ok (.aload_n 0, 1) := by decide +kernel
theorem dX1_give_130 : decode cX1_give 130 = .ok (.getfield 34, 3) := by decide +kernel
theorem dX1_give_133 : decode cX1_give 133 = .ok (.getfield 112, 3) := by decide +kernel
theorem dX1_give_136 : decode cX1_give 136 = .ok (.i2l, 1) := by decide +kernel
theorem dX1_give_137 : decode cX1_give 137 = .ok (.bipush 10, 2) := by decide +kernel
theorem dX1_give_139 : decode cX1_give 139 = .ok (.lshl, 1) := by decide +kernel
theorem dX1_give_140 : decode cX1_give 140 = .ok (.ladd, 1) := by decide +kernel
theorem dX1_give_141 : decode cX1_give 141 = .ok (.iload 4, 2) := by decide +kernel
theorem dX1_give_143 : decode cX1_give 143 = .ok (.i2l, 1) := by decide +kernel
theorem dX1_give_144 : decode cX1_give 144 = .ok (.ladd, 1) := by decide +kernel
theorem dX1_give_145 : decode cX1_give 145 = .ok (.lreturn, 1) := by decide +kernel
theorem dX1_tellHeld_0 : decode cX1_tellHeld 0 = .ok (.aload_n 0, 1) := by decide +kernel
theorem dX1_tellHeld_1 : decode cX1_tellHeld 1 = .ok (.getfield 34, 3) := by decide +kernel
theorem dX1_tellHeld_4 : decode cX1_tellHeld 4 = .ok (.ifnonnull 7, 3) := by decide +kernel
theorem dX1_tellHeld_7 : decode cX1_tellHeld 7 = .ok (.ldc2_w 21, 3) := by decide +kernel
theorem dX1_tellHeld_10 : decode cX1_tellHeld 10 = .ok (.lreturn, 1) := by decide +kernel
theorem dX1_tellHeld_11 : decode cX1_tellHeld 11 = .ok (.iload_n 1, 1) := by decide +kernel
theorem dX1_tellHeld_12 : decode cX1_tellHeld 12 = .ok (.tableswitch 60 2 4 #[28, 37, 49], 28) := by decide +kernel
theorem dX1_tellHeld_40 : decode cX1_tellHeld 40 = .ok (.aload_n 0, 1) := by decide +kernel
theorem dX1_tellHeld_41 : decode cX1_tellHeld 41 = .ok (.getfield 34, 3) := by decide +kernel
theorem dX1_tellHeld_44 : decode cX1_tellHeld 44 = .ok (.getfield 112, 3) := by decide +kernel
theorem dX1_tellHeld_47 : decode cX1_tellHeld 47 = .ok (.i2l, 1) := by decide +kernel
theorem dX1_tellHeld_48 : decode cX1_tellHeld 48 = .ok (.lreturn, 1) := by decide +kernel
theorem dX1_tellHeld_49 : decode cX1_tellHeld 49 = .ok (.aload_n 0, 1) := by decide +kernel
theorem dX1_tellHeld_50 : decode cX1_tellHeld 50 = .ok (.getfield 34, 3) := by decide +kernel
theorem dX1_tellHeld_53 : decode cX1_tellHeld 53 = .ok (.getfield 134, 3) := by decide +kernel
theorem dX1_tellHeld_56 : decode cX1_tellHeld 56 = .ok (.getfield 137, 3) := by decide +kernel
theorem dX1_tellHeld_59 : decode cX1_tellHeld 59 = .ok (.i2l, 1) := by decide +kernel
theorem dX1_tellHeld_60 : decode cX1_tellHeld 60 = .ok (.lreturn, 1) := by decide +kernel
theorem dX1_tellHeld_61 : decode cX1_tellHeld 61 = .ok (.aload_n 0, 1) := by decide +kernel
theorem dX1_tellHeld_62 : decode cX1_tellHeld 62 = .ok (.getfield 34, 3) := by decide +kernel
theorem dX1_tellHeld_65 : decode cX1_tellHeld 65 = .ok (.getfield 134, 3) := by decide +kernel
theorem dX1_tellHeld_68 : decode cX1_tellHeld 68 = .ok (.getfield 124, 3) := by decide +kernel
theorem dX1_tellHeld_71 : decode cX1_tellHeld 71 = .ok (.lreturn, 1) := by decide +kernel
theorem dX1_tellHeld_72 : decode cX1_tellHeld 72 = .ok (.aload_n 0, 1) := by decide +kernel
theorem dX1_tellHeld_73 : decode cX1_tellHeld 73 = .ok (.getfield 23, 3) := by decide +kernel
theorem dX1_tellHeld_76 : decode cX1_tellHeld 76 = .ok (.lreturn, 1) := by decide +kernel
theorem dX2_init_0 : decode cX2_init 0 = .ok (.aload_n 0, 1) := by decide +kernel
theorem dX2_init_1 : decode cX2_init 1 = .ok (.invokespecial 3, 3) := by decide +kernel
theorem dX2_init_4 : decode cX2_init 4 = .ok (.aload_n 0, 1) := by decide +kernel
theorem dX2_init_5 : decode cX2_init 5 = .ok (.bipush 8, 2) := by decide +kernel
theorem dX2_init_7 : decode cX2_init 7 = .ok (.anewarray 9, 3) := by decide +kernel
theorem dX2_init_10 : decode cX2_init 10 = .ok (.putfield 11, 3) := by decide +kernel
theorem dX2_init_13 : decode cX2_init 13 = .ok (.aload_n 0, 1) := by decide +kernel
theorem dX2_init_14 : decode cX2_init 14 = .ok (.aload_n 1, 1) := by decide +kernel
theorem dX2_init_15 : decode cX2_init 15 = .ok (.putfield 17, 3) := by decide +kernel
theorem dX2_init_18 : decode cX2_init 18 = .ok (.iconst 0, 1) := by decide +kernel
theorem dX2_init_19 : decode cX2_init 19 = .ok (.istore_n 2, 1) := by decide +kernel
theorem dX2_init_20 : decode cX2_init 20 = .ok (.iload_n 2, 1) := by decide +kernel
theorem dX2_init_21 : decode cX2_init 21 = .ok (.bipush 8, 2) := by decide +kernel
theorem dX2_init_23 : decode cX2_init 23 = .ok (.if_icmp .ge 16, 3) := by decide +kernel
theorem dX2_init_26 : decode cX2_init 26 = .ok (.aload_n 0, 1) := by decide +kernel
theorem dX2_init_27 : decode cX2_init 27 = .ok (.getfield 11, 3) := by decide +kernel
theorem dX2_init_30 : decode cX2_init 30 = .ok (.iload_n 2, 1) := by decide +kernel
theorem dX2_init_31 : decode cX2_init 31 = .ok (.aload_n 1, 1) := by decide +kernel
theorem dX2_init_32 : decode cX2_init 32 = .ok (.aastore, 1) := by decide +kernel
theorem dX2_init_33 : decode cX2_init 33 = .ok (.iinc 2 1, 3) := by decide +kernel
theorem dX2_init_36 : decode cX2_init 36 = .ok (.goto (-16), 3) := by decide +kernel
theorem dX2_init_39 : decode cX2_init 39 = .ok (.return_, 1) := by decide +kernel
theorem dX2_isToNode_0 : decode cX2_isToNode 0 = .ok (.aload_n 0, 1) := by decide +kernel
theorem dX2_isToNode_1 : decode cX2_isToNode 1 = .ok (.getfield 21, 3) := by decide +kernel
theorem dX2_isToNode_4 : decode cX2_isToNode 4 = .ok (.ifCond .eq 11, 3) := by decide +kernel
theorem dX2_isToNode_7 : decode cX2_isToNode 7 = .ok (.aload_n 0, 1) := by decide +kernel
theorem dX2_isToNode_8 : decode cX2_isToNode 8 = .ok (.getfield 21, 3) := by decide +kernel
theorem dX2_isToNode_11 : decode cX2_isToNode 11 = .ok (.iconst 2, 1) := by decide +kernel
theorem dX2_isToNode_12 : decode cX2_isToNode 12 = .ok (.if_icmp .ne 7, 3) := by decide +kernel
theorem dX2_isToNode_15 : decode cX2_isToNode 15 = .ok (.iconst 1, 1) := by decide +kernel
theorem dX2_isToNode_16 : decode cX2_isToNode 16 = .ok (.goto 4, 3) := by decide +kernel
theorem dX2_isToNode_19 : decode cX2_isToNode 19 = .ok (.iconst 0, 1) := by decide +kernel
theorem dX2_isToNode_20 : decode cX2_isToNode 20 = .ok (.ireturn, 1) := by decide +kernel
theorem dX2_copyRows_0 : decode cX2_copyRows 0 = .ok (.iconst 0, 1) := by decide +kernel
theorem dX2_copyRows_1 : decode cX2_copyRows 1 = .ok (.istore_n 2, 1) := by decide +kernel
theorem dX2_copyRows_2 : decode cX2_copyRows 2 = .ok (.iload_n 2, 1) := by decide +kernel
theorem dX2_copyRows_3 : decode cX2_copyRows 3 = .ok (.bipush 8, 2) := by decide +kernel
theorem dX2_copyRows_5 : decode cX2_copyRows 5 = .ok (.if_icmp .ge 18, 3) := by decide +kernel
theorem dX2_copyRows_8 : decode cX2_copyRows 8 = .ok (.aload_n 0, 1) := by decide +kernel
theorem dX2_copyRows_9 : decode cX2_copyRows 9 = .ok (.getfield 11, 3) := by decide +kernel
theorem dX2_copyRows_12 : decode cX2_copyRows 12 = .ok (.iload_n 2, 1) := by decide +kernel
theorem dX2_copyRows_13 : decode cX2_copyRows 13 = .ok (.aload_n 1, 1) := by decide +kernel
theorem dX2_copyRows_14 : decode cX2_copyRows 14 = .ok (.iload_n 2, 1) := by decide +kernel
theorem dX2_copyRows_15 : decode cX2_copyRows 15 = .ok (.aaload, 1) := by decide +kernel
theorem dX2_copyRows_16 : decode cX2_copyRows 16 = .ok (.aastore, 1) := by decide +kernel
theorem dX2_copyRows_17 : decode cX2_copyRows 17 = .ok (.iinc 2 1, 3) := by decide +kernel
theorem dX2_copyRows_20 : decode cX2_copyRows 20 = .ok (.goto (-18), 3) := by decide +kernel
theorem dX2_copyRows_23 : decode cX2_copyRows 23 = .ok (.return_, 1) := by decide +kernel
theorem dX3_init_0 : decode cX3_init 0 = .ok (.aload_n 0, 1) := by decide +kernel
theorem dX3_init_1 : decode cX3_init 1 = .ok (.invokespecial 3, 3) := by decide +kernel
theorem dX3_init_4 : decode cX3_init 4 = .ok (.aload_n 0, 1) := by decide +kernel
theorem dX3_init_5 : decode cX3_init 5 = .ok (.iconst 1, 1) := by decide +kernel
theorem dX3_init_6 : decode cX3_init 6 = .ok (.putfield 9, 3) := by decide +kernel
theorem dX3_init_9 : decode cX3_init 9 = .ok (.aload_n 0, 1) := by decide +kernel
theorem dX3_init_10 : decode cX3_init 10 = .ok (.bipush 8, 2) := by decide +kernel
theorem dX3_init_12 : decode cX3_init 12 = .ok (.anewarray 15, 3) := by decide +kernel
theorem dX3_init_15 : decode cX3_init 15 = .ok (.putfield 17, 3) := by decide +kernel
theorem dX3_init_18 : decode cX3_init 18 = .ok (.iconst 0, 1) := by decide +kernel
theorem dX3_init_19 : decode cX3_init 19 = .ok (.istore_n 2, 1) := by decide +kernel
theorem dX3_init_20 : decode cX3_init 20 = .ok (.iload_n 2, 1) := by decide +kernel
theorem dX3_init_21 : decode cX3_init 21 = .ok (.bipush 8, 2) := by decide +kernel
theorem dX3_init_23 : decode cX3_init 23 = .ok (.if_icmp .ge 16, 3) := by decide +kernel
theorem dX3_init_26 : decode cX3_init 26 = .ok (.aload_n 0, 1) := by decide +kernel
theorem dX3_init_27 : decode cX3_init 27 = .ok (.getfield 17, 3) := by decide +kernel
theorem dX3_init_30 : decode cX3_init 30 = .ok (.iload_n 2, 1) := by decide +kernel
theorem dX3_init_31 : decode cX3_init 31 = .ok (.aload_n 1, 1) := by decide +kernel
theorem dX3_init_32 : decode cX3_init 32 = .ok (.aastore, 1) := by decide +kernel
theorem dX3_init_33 : decode cX3_init 33 = .ok (.iinc 2 1, 3) := by decide +kernel
theorem dX3_init_36 : decode cX3_init 36 = .ok (.goto (-16), 3) := by decide +kernel
theorem dX3_init_39 : decode cX3_init 39 = .ok (.return_, 1) := by decide +kernel
theorem dX3_answerPrepare_0 : decode cX3_answerPrepare 0 = .ok (.aload_n 1, 1) := by decide +kernel
theorem dX3_answerPrepare_1 : decode cX3_answerPrepare 1 = .ok (.getfield 21, 3) := by decide +kernel
theorem dX3_answerPrepare_4 : decode cX3_answerPrepare 4 = .ok (.aload_n 0, 1) := by decide +kernel
theorem dX3_answerPrepare_5 : decode cX3_answerPrepare 5 = .ok (.getfield 27, 3) := by decide +kernel
theorem dX3_answerPrepare_8 : decode cX3_answerPrepare 8 = .ok (.if_icmp .gt 10, 3) := by decide +kernel
theorem dX3_answerPrepare_11 : decode cX3_answerPrepare 11 = .ok (.aload_n 0, 1) := by decide +kernel
theorem dX3_answerPrepare_12 : decode cX3_answerPrepare 12 = .ok (.aload_n 1, 1) := by decide +kernel
theorem dX3_answerPrepare_13 : decode cX3_answerPrepare 13 = .ok (.aload_n 2, 1) := by decide +kernel
theorem dX3_answerPrepare_14 : decode cX3_answerPrepare 14 = .ok (.invokevirtual 30, 3) := by decide +kernel
theorem dX3_answerPrepare_17 : decode cX3_answerPrepare 17 = .ok (.return_, 1) := by decide +kernel
theorem dX3_answerPrepare_18 : decode cX3_answerPrepare 18 = .ok (.aload_n 0, 1) := by decide +kernel
theorem dX3_answerPrepare_19 : decode cX3_answerPrepare 19 = .ok (.aload_n 1, 1) := by decide +kernel
theorem dX3_answerPrepare_20 : decode cX3_answerPrepare 20 = .ok (.getfield 21, 3) := by decide +kernel
theorem dX3_answerPrepare_23 : decode cX3_answerPrepare 23 = .ok (.putfield 27, 3) := by decide +kernel
theorem dX3_answerPrepare_26 : decode cX3_answerPrepare 26 = .ok (.aload_n 2, 1) := by decide +kernel
theorem dX3_answerPrepare_27 : decode cX3_answerPrepare 27 = .ok (.iconst 1, 1) := by decide +kernel
theorem dX3_answerPrepare_28 : decode cX3_answerPrepare 28 = .ok (.aload_n 1, 1) := by decide +kernel
theorem dX3_answerPrepare_29 : decode cX3_answerPrepare 29 = .ok (.getfield 34, 3) := by decide +kernel
theorem dX3_answerPrepare_32 : decode cX3_answerPrepare 32 = .ok (.aload_n 1, 1) := by decide +kernel
theorem dX3_answerPrepare_33 : decode cX3_answerPrepare 33 = .ok (.getfield 37, 3) := by decide +kernel
theorem dX3_answerPrepare_36 : decode cX3_answerPrepare 36 = .ok (.aload_n 1, 1) := by decide +kernel
theorem dX3_answerPrepare_37 : decode cX3_answerPrepare 37 = .ok (.getfield 21, 3) := by decide +kernel
theorem dX3_answerPrepare_40 : decode cX3_answerPrepare 40 = .ok (.invokevirtual 40, 3) := by decide +kernel
theorem dX3_answerPrepare_43 : decode cX3_answerPrepare 43 = .ok (.aload_n 0, 1) := by decide +kernel
theorem dX3_answerPrepare_44 : decode cX3_answerPrepare 44 = .ok (.getfield 17, 3) := by decide +kernel
theorem dX3_answerPrepare_47 : decode cX3_answerPrepare 47 = .ok (.invokevirtual 46, 3) := by decide +kernel
theorem dX3_answerPrepare_50 : decode cX3_answerPrepare 50 = .ok (.return_, 1) := by decide +kernel
theorem dX3_answerAccept_0 : decode cX3_answerAccept 0 = .ok (.aload_n 1, 1) := by decide +kernel
theorem dX3_answerAccept_1 : decode cX3_answerAccept 1 = .ok (.getfield 21, 3) := by decide +kernel
theorem dX3_answerAccept_4 : decode cX3_answerAccept 4 = .ok (.aload_n 0, 1) := by decide +kernel
theorem dX3_answerAccept_5 : decode cX3_answerAccept 5 = .ok (.getfield 27, 3) := by decide +kernel
theorem dX3_answerAccept_8 : decode cX3_answerAccept 8 = .ok (.if_icmp .ge 10, 3) := by decide +kernel
theorem dX3_answerAccept_11 : decode cX3_answerAccept 11 = .ok (.aload_n 0, 1) := by decide +kernel
theorem dX3_answerAccept_12 : decode cX3_answerAccept 12 = .ok (.aload_n 1, 1) := by decide +kernel
theorem dX3_answerAccept_13 : decode cX3_answerAccept 13 = .ok (.aload_n 2, 1) := by decide +kernel
theorem dX3_answerAccept_14 : decode cX3_answerAccept 14 = .ok (.invokevirtual 30, 3) := by decide +kernel
theorem dX3_answerAccept_17 : decode cX3_answerAccept 17 = .ok (.return_, 1) := by decide +kernel
theorem dX3_answerAccept_18 : decode cX3_answerAccept 18 = .ok (.aload_n 0, 1) := by decide +kernel
theorem dX3_answerAccept_19 : decode cX3_answerAccept 19 = .ok (.aload_n 1, 1) := by decide +kernel
theorem dX3_answerAccept_20 : decode cX3_answerAccept 20 = .ok (.getfield 21, 3) := by decide +kernel
theorem dX3_answerAccept_23 : decode cX3_answerAccept 23 = .ok (.putfield 27, 3) := by decide +kernel
theorem dX3_answerAccept_26 : decode cX3_answerAccept 26 = .ok (.aload_n 0, 1) := by decide +kernel
theorem dX3_answerAccept_27 : decode cX3_answerAccept 27 = .ok (.getfield 17, 3) := by decide +kernel
theorem dX3_answerAccept_30 : decode cX3_answerAccept 30 = .ok (.aload_n 1, 1) := by decide +kernel
theorem dX3_answerAccept_31 : decode cX3_answerAccept 31 = .ok (.getfield 50, 3) := by decide +kernel
theorem dX3_answerAccept_34 : decode cX3_answerAccept 34 = .ok (.aload_n 1, 1) := by decide +kernel
theorem dX3_answerAccept_35 : decode cX3_answerAccept 35 = .ok (.getfield 53, 3) := by decide +kernel
theorem dX3_answerAccept_38 : decode cX3_answerAccept 38 = .ok (.aastore, 1) := by decide +kernel
theorem dX3_answerAccept_39 : decode cX3_answerAccept 39 = .ok (.aload_n 2, 1) := by decide +kernel
theorem dX3_answerAccept_40 : decode cX3_answerAccept 40 = .ok (.iconst 3, 1) := by decide +kernel
theorem dX3_answerAccept_41 : decode cX3_answerAccept 41 = .ok (.aload_n 1, 1) := by decide +kernel
theorem dX3_answerAccept_42 : decode cX3_answerAccept 42 = .ok (.getfield 34, 3) := by decide +kernel
theorem dX3_answerAccept_45 : decode cX3_answerAccept 45 = .ok (.aload_n 1, 1) := by decide +kernel
theorem dX3_answerAccept_46 : decode cX3_answerAccept 46 = .ok (.getfield 37, 3) := by decide +kernel
theorem dX3_answerAccept_49 : decode cX3_answerAccept 49 = .ok (.aload_n 1, 1) := by decide +kernel
theorem dX3_answerAccept_50 : decode cX3_answerAccept 50 = .ok (.getfield 21, 3) := by decide +kernel
theorem dX3_answerAccept_53 : decode cX3_answerAccept 53 = .ok (.invokevirtual 40, 3) := by decide +kernel
theorem dX3_answerAccept_56 : decode cX3_answerAccept 56 = .ok (.pop, 1) := by decide +kernel
theorem dX3_answerAccept_57 : decode cX3_answerAccept 57 = .ok (.return_, 1) := by decide +kernel
theorem dX3_refuse_0 : decode cX3_refuse 0 = .ok (.aload_n 2, 1) := by decide +kernel
theorem dX3_refuse_1 : decode cX3_refuse 1 = .ok (.iconst 4, 1) := by decide +kernel
theorem dX3_refuse_2 : decode cX3_refuse 2 = .ok (.aload_n 1, 1) := by decide +kernel
theorem dX3_refuse_3 : decode cX3_refuse 3 = .ok (.getfield 34, 3) := by decide +kernel
theorem dX3_refuse_6 : decode cX3_refuse 6 = .ok (.aload_n 1, 1) := by decide +kernel
theorem dX3_refuse_7 : decode cX3_refuse 7 = .ok (.getfield 37, 3) := by decide +kernel
theorem dX3_refuse_10 : decode cX3_refuse 10 = .ok (.aload_n 1, 1) := by decide +kernel
theorem dX3_refuse_11 : decode cX3_refuse 11 = .ok (.getfield 21, 3) := by decide +kernel
theorem dX3_refuse_14 : decode cX3_refuse 14 = .ok (.invokevirtual 40, 3) := by decide +kernel
theorem dX3_refuse_17 : decode cX3_refuse 17 = .ok (.aload_n 0, 1) := by decide +kernel
theorem dX3_refuse_18 : decode cX3_refuse 18 = .ok (.getfield 27, 3) := by decide +kernel
theorem dX3_refuse_21 : decode cX3_refuse 21 = .ok (.putfield 57, 3) := by decide +kernel
theorem dX3_refuse_24 : decode cX3_refuse 24 = .ok (.return_, 1) := by decide +kernel
theorem dX4_init_0 : decode cX4_init 0 = .ok (.aload_n 0, 1) := by decide +kernel
theorem dX4_init_1 : decode cX4_init 1 = .ok (.invokespecial 3, 3) := by decide +kernel
theorem dX4_init_4 : decode cX4_init 4 = .ok (.aload_n 0, 1) := by decide +kernel
theorem dX4_init_5 : decode cX4_init 5 = .ok (.bipush 91, 2) := by decide +kernel
theorem dX4_init_7 : decode cX4_init 7 = .ok (.anewarray 9, 3) := by decide +kernel
theorem dX4_init_10 : decode cX4_init 10 = .ok (.putfield 11, 3) := by decide +kernel
theorem dX4_init_13 : decode cX4_init 13 = .ok (.iconst 0, 1) := by decide +kernel
theorem dX4_init_14 : decode cX4_init 14 = .ok (.istore_n 2, 1) := by decide +kernel
theorem dX4_init_15 : decode cX4_init 15 = .ok (.iload_n 2, 1) := by decide +kernel
theorem dX4_init_16 : decode cX4_init 16 = .ok (.aload_n 0, 1) := by decide +kernel
theorem dX4_init_17 : decode cX4_init 17 = .ok (.getfield 11, 3) := by decide +kernel
theorem dX4_init_20 : decode cX4_init 20 = .ok (.arraylength, 1) := by decide +kernel
theorem dX4_init_21 : decode cX4_init 21 = .ok (.if_icmp .ge 23, 3) := by decide +kernel
theorem dX4_init_24 : decode cX4_init 24 = .ok (.aload_n 0, 1) := by decide +kernel
theorem dX4_init_25 : decode cX4_init 25 = .ok (.getfield 11, 3) := by decide +kernel
theorem dX4_init_28 : decode cX4_init 28 = .ok (.iload_n 2, 1) := by decide +kernel
theorem dX4_init_29 : decode cX4_init 29 = .ok (.new 9, 3) := by decide +kernel
theorem dX4_init_32 : decode cX4_init 32 = .ok (.dup, 1) := by decide +kernel
theorem dX4_init_33 : decode cX4_init 33 = .ok (.aload_n 1, 1) := by decide +kernel
theorem dX4_init_34 : decode cX4_init 34 = .ok (.invokespecial 17, 3) := by decide +kernel
theorem dX4_init_37 : decode cX4_init 37 = .ok (.aastore, 1) := by decide +kernel
theorem dX4_init_38 : decode cX4_init 38 = .ok (.iinc 2 1, 3) := by decide +kernel
theorem dX4_init_41 : decode cX4_init 41 = .ok (.goto (-26), 3) := by decide +kernel
theorem dX4_init_44 : decode cX4_init 44 = .ok (.return_, 1) := by decide +kernel
theorem dX4_hasRoomFor_0 : decode cX4_hasRoomFor 0 = .ok (.aload_n 0, 1) := by decide +kernel
theorem dX4_hasRoomFor_1 : decode cX4_hasRoomFor 1 = .ok (.getfield 20, 3) := by decide +kernel
theorem dX4_hasRoomFor_4 : decode cX4_hasRoomFor 4 = .ok (.iload_n 1, 1) := by decide +kernel
theorem dX4_hasRoomFor_5 : decode cX4_hasRoomFor 5 = .ok (.iadd, 1) := by decide +kernel
theorem dX4_hasRoomFor_6 : decode cX4_hasRoomFor 6 = .ok (.bipush 90, 2) := by decide +kernel
theorem dX4_hasRoomFor_8 : decode cX4_hasRoomFor 8 = .ok (.if_icmp .gt 7, 3) := by decide +kernel
theorem dX4_hasRoomFor_11 : decode cX4_hasRoomFor 11 = .ok (.iconst 1, 1) := by decide +kernel
theorem dX4_hasRoomFor_12 : decode cX4_hasRoomFor 12 = .ok (.goto 4, 3) := by decide +kernel
theorem dX4_hasRoomFor_15 : decode cX4_hasRoomFor 15 = .ok (.iconst 0, 1) := by decide +kernel
theorem dX4_hasRoomFor_16 : decode cX4_hasRoomFor 16 = .ok (.ireturn, 1) := by decide +kernel
theorem dX4_at_0 : decode cX4_at 0 = .ok (.aload_n 0, 1) := by decide +kernel
theorem dX4_at_1 : decode cX4_at 1 = .ok (.getfield 11, 3) := by decide +kernel
theorem dX4_at_4 : decode cX4_at 4 = .ok (.iload_n 1, 1) := by decide +kernel
theorem dX4_at_5 : decode cX4_at 5 = .ok (.aaload, 1) := by decide +kernel
theorem dX4_at_6 : decode cX4_at 6 = .ok (.areturn, 1) := by decide +kernel
theorem dX4_send_0 : decode cX4_send 0 = .ok (.aload_n 0, 1) := by decide +kernel
theorem dX4_send_1 : decode cX4_send 1 = .ok (.getfield 11, 3) := by decide +kernel
theorem dX4_send_4 : decode cX4_send 4 = .ok (.aload_n 0, 1) := by decide +kernel
theorem dX4_send_5 : decode cX4_send 5 = .ok (.getfield 20, 3) := by decide +kernel
theorem dX4_send_8 : decode cX4_send 8 = .ok (.aaload, 1) := by decide +kernel
theorem dX4_send_9 : decode cX4_send 9 = .ok (.astore 5, 2) := by decide +kernel
theorem dX4_send_11 : decode cX4_send 11 = .ok (.aload_n 0, 1) := by decide +kernel
theorem dX4_send_12 : decode cX4_send 12 = .ok (.dup, 1) := by decide +kernel
theorem dX4_send_13 : decode cX4_send 13 = .ok (.getfield 20, 3) := by decide +kernel
theorem dX4_send_16 : decode cX4_send 16 = .ok (.iconst 1, 1) := by decide +kernel
theorem dX4_send_17 : decode cX4_send 17 = .ok (.iadd, 1) := by decide +kernel
theorem dX4_send_18 : decode cX4_send 18 = .ok (.putfield 20, 3) := by decide +kernel
theorem dX4_send_21 : decode cX4_send 21 = .ok (.aload 5, 2) := by decide +kernel
theorem dX4_send_23 : decode cX4_send 23 = .ok (.iload_n 1, 1) := by decide +kernel
theorem dX4_send_24 : decode cX4_send 24 = .ok (.putfield 24, 3) := by decide +kernel
theorem dX4_send_27 : decode cX4_send 27 = .ok (.aload 5, 2) := by decide +kernel
theorem dX4_send_29 : decode cX4_send 29 = .ok (.iload_n 2, 1) := by decide +kernel
theorem dX4_send_30 : decode cX4_send 30 = .ok (.putfield 27, 3) := by decide +kernel
theorem dX4_send_33 : decode cX4_send 33 = .ok (.aload 5, 2) := by decide +kernel
theorem dX4_send_35 : decode cX4_send 35 = .ok (.iload_n 3, 1) := by decide +kernel
theorem dX4_send_36 : decode cX4_send 36 = .ok (.putfield 30, 3) := by decide +kernel
theorem dX4_send_39 : decode cX4_send 39 = .ok (.aload 5, 2) := by decide +kernel
theorem dX4_send_41 : decode cX4_send 41 = .ok (.iload 4, 2) := by decide +kernel
theorem dX4_send_43 : decode cX4_send 43 = .ok (.putfield 33, 3) := by decide +kernel
theorem dX4_send_46 : decode cX4_send 46 = .ok (.aload 5, 2) := by decide +kernel
theorem dX4_send_48 : decode cX4_send 48 = .ok (.iconst (-1), 1) := by decide +kernel
theorem dX4_send_49 : decode cX4_send 49 = .ok (.putfield 36, 3) := by decide +kernel
theorem dX4_send_52 : decode cX4_send 52 = .ok (.aload 5, 2) := by decide +kernel
theorem dX4_send_54 : decode cX4_send 54 = .ok (.iconst (-1), 1) := by decide +kernel
theorem dX4_send_55 : decode cX4_send 55 = .ok (.putfield 39, 3) := by decide +kernel
theorem dX4_send_58 : decode cX4_send 58 = .ok (.aload 5, 2) := by decide +kernel
theorem dX4_send_60 : decode cX4_send 60 = .ok (.areturn, 1) := by decide +kernel
theorem dX4_sendAgain_0 : decode cX4_sendAgain 0 = .ok (.aload_n 0, 1) := by decide +kernel
theorem dX4_sendAgain_1 : decode cX4_sendAgain 1 = .ok (.getfield 11, 3) := by decide +kernel
theorem dX4_sendAgain_4 : decode cX4_sendAgain 4 = .ok (.iload_n 1, 1) := by decide +kernel
theorem dX4_sendAgain_5 : decode cX4_sendAgain 5 = .ok (.aaload, 1) := by decide +kernel
theorem dX4_sendAgain_6 : decode cX4_sendAgain 6 = .ok (.astore_n 2, 1) := by decide +kernel
theorem dX4_sendAgain_7 : decode cX4_sendAgain 7 = .ok (.aload_n 0, 1) := by decide +kernel
theorem dX4_sendAgain_8 : decode cX4_sendAgain 8 = .ok (.aload_n 2, 1) := by decide +kernel
theorem dX4_sendAgain_9 : decode cX4_sendAgain 9 = .ok (.getfield 24, 3) := by decide +kernel
theorem dX4_sendAgain_12 : decode cX4_sendAgain 12 = .ok (.aload_n 2, 1) := by decide +kernel
theorem dX4_sendAgain_13 : decode cX4_sendAgain 13 = .ok (.getfield 27, 3) := by decide +kernel
theorem dX4_sendAgain_16 : decode cX4_sendAgain 16 = .ok (.aload_n 2, 1) := by decide +kernel
theorem dX4_sendAgain_17 : decode cX4_sendAgain 17 = .ok (.getfield 30, 3) := by decide +kernel
theorem dX4_sendAgain_20 : decode cX4_sendAgain 20 = .ok (.aload_n 2, 1) := by decide +kernel
theorem dX4_sendAgain_21 : decode cX4_sendAgain 21 = .ok (.getfield 33, 3) := by decide +kernel
theorem dX4_sendAgain_24 : decode cX4_sendAgain 24 = .ok (.invokevirtual 42, 3) := by decide +kernel
theorem dX4_sendAgain_27 : decode cX4_sendAgain 27 = .ok (.astore_n 3, 1) := by decide +kernel
theorem dX4_sendAgain_28 : decode cX4_sendAgain 28 = .ok (.aload_n 3, 1) := by decide +kernel
theorem dX4_sendAgain_29 : decode cX4_sendAgain 29 = .ok (.aload_n 2, 1) := by decide +kernel
theorem dX4_sendAgain_30 : decode cX4_sendAgain 30 = .ok (.getfield 36, 3) := by decide +kernel
theorem dX4_sendAgain_33 : decode cX4_sendAgain 33 = .ok (.putfield 36, 3) := by decide +kernel
theorem dX4_sendAgain_36 : decode cX4_sendAgain 36 = .ok (.aload_n 3, 1) := by decide +kernel
theorem dX4_sendAgain_37 : decode cX4_sendAgain 37 = .ok (.aload_n 2, 1) := by decide +kernel
theorem dX4_sendAgain_38 : decode cX4_sendAgain 38 = .ok (.getfield 39, 3) := by decide +kernel
theorem dX4_sendAgain_41 : decode cX4_sendAgain 41 = .ok (.putfield 39, 3) := by decide +kernel
theorem dX4_sendAgain_44 : decode cX4_sendAgain 44 = .ok (.aload_n 3, 1) := by decide +kernel
theorem dX4_sendAgain_45 : decode cX4_sendAgain 45 = .ok (.aload_n 2, 1) := by decide +kernel
theorem dX4_sendAgain_46 : decode cX4_sendAgain 46 = .ok (.getfield 46, 3) := by decide +kernel
theorem dX4_sendAgain_49 : decode cX4_sendAgain 49 = .ok (.putfield 46, 3) := by decide +kernel
theorem dX4_sendAgain_52 : decode cX4_sendAgain 52 = .ok (.aload_n 3, 1) := by decide +kernel
theorem dX4_sendAgain_53 : decode cX4_sendAgain 53 = .ok (.aload_n 2, 1) := by decide +kernel
theorem dX4_sendAgain_54 : decode cX4_sendAgain 54 = .ok (.getfield 50, 3) := by decide +kernel
theorem dX4_sendAgain_57 : decode cX4_sendAgain 57 = .ok (.invokevirtual 54, 3) := by decide +kernel
theorem dX4_sendAgain_60 : decode cX4_sendAgain 60 = .ok (.return_, 1) := by decide +kernel
theorem dX4_take_0 : decode cX4_take 0 = .ok (.aload_n 0, 1) := by decide +kernel
theorem dX4_take_1 : decode cX4_take 1 = .ok (.getfield 11, 3) := by decide +kernel
theorem dX4_take_4 : decode cX4_take 4 = .ok (.iload_n 1, 1) := by decide +kernel
theorem dX4_take_5 : decode cX4_take 5 = .ok (.aaload, 1) := by decide +kernel
theorem dX4_take_6 : decode cX4_take 6 = .ok (.astore_n 2, 1) := by decide +kernel
theorem dX4_take_7 : decode cX4_take 7 = .ok (.iload_n 1, 1) := by decide +kernel
theorem dX4_take_8 : decode cX4_take 8 = .ok (.istore_n 3, 1) := by decide +kernel
theorem dX4_take_9 : decode cX4_take 9 = .ok (.iload_n 3, 1) := by decide +kernel
theorem dX4_take_10 : decode cX4_take 10 = .ok (.bipush 90, 2) := by decide +kernel
theorem dX4_take_12 : decode cX4_take 12 = .ok (.if_icmp .ge 23, 3) := by decide +kernel
theorem dX4_take_15 : decode cX4_take 15 = .ok (.aload_n 0, 1) := by decide +kernel
theorem dX4_take_16 : decode cX4_take 16 = .ok (.getfield 11, 3) := by decide +kernel
theorem dX4_take_19 : decode cX4_take 19 = .ok (.iload_n 3, 1) := by decide +kernel
theorem dX4_take_20 : decode cX4_take 20 = .ok (.aload_n 0, 1) := by decide +kernel
theorem dX4_take_21 : decode cX4_take 21 = .ok (.getfield 11, 3) := by decide +kernel
theorem dX4_take_24 : decode cX4_take 24 = .ok (.iload_n 3, 1) := by decide +kernel
theorem dX4_take_25 : decode cX4_take 25 = .ok (.iconst 1, 1) := by decide +kernel
theorem dX4_take_26 : decode cX4_take 26 = .ok (.iadd, 1) := by decide +kernel
theorem dX4_take_27 : decode cX4_take 27 = .ok (.aaload, 1) := by decide +kernel
theorem dX4_take_28 : decode cX4_take 28 = .ok (.aastore, 1) := by decide +kernel
theorem dX4_take_29 : decode cX4_take 29 = .ok (.iinc 3 1, 3) := by decide +kernel
theorem dX4_take_32 : decode cX4_take 32 = .ok (.goto (-23), 3) := by decide +kernel
theorem dX4_take_35 : decode cX4_take 35 = .ok (.aload_n 0, 1) := by decide +kernel
theorem dX4_take_36 : decode cX4_take 36 = .ok (.getfield 11, 3) := by decide +kernel
theorem dX4_take_39 : decode cX4_take 39 = .ok (.bipush 90, 2) := by decide +kernel
theorem dX4_take_41 : decode cX4_take 41 = .ok (.aload_n 2, 1) := by decide +kernel
theorem dX4_take_42 : decode cX4_take 42 = .ok (.aastore, 1) := by decide +kernel
theorem dX4_take_43 : decode cX4_take 43 = .ok (.aload_n 0, 1) := by decide +kernel
theorem dX4_take_44 : decode cX4_take 44 = .ok (.dup, 1) := by decide +kernel
theorem dX4_take_45 : decode cX4_take 45 = .ok (.getfield 20, 3) := by decide +kernel
theorem dX4_take_48 : decode cX4_take 48 = .ok (.iconst 1, 1) := by decide +kernel
theorem dX4_take_49 : decode cX4_take 49 = .ok (.isub, 1) := by decide +kernel
theorem dX4_take_50 : decode cX4_take 50 = .ok (.putfield 20, 3) := by decide +kernel
theorem dX4_take_53 : decode cX4_take 53 = .ok (.return_, 1) := by decide +kernel
theorem dX5_init_0 : decode cX5_init 0 = .ok (.aload_n 0, 1) := by decide +kernel
theorem dX5_init_1 : decode cX5_init 1 = .ok (.invokespecial 1, 3) := by decide +kernel
theorem dX5_init_4 : decode cX5_init 4 = .ok (.aload_n 0, 1) := by decide +kernel
theorem dX5_init_5 : decode cX5_init 5 = .ok (.iload_n 1, 1) := by decide +kernel
theorem dX5_init_6 : decode cX5_init 6 = .ok (.putfield 7, 3) := by decide +kernel
theorem dX5_init_9 : decode cX5_init 9 = .ok (.aload_n 0, 1) := by decide +kernel
theorem dX5_init_10 : decode cX5_init 10 = .ok (.iload_n 2, 1) := by decide +kernel
theorem dX5_init_11 : decode cX5_init 11 = .ok (.putfield 13, 3) := by decide +kernel
theorem dX5_init_14 : decode cX5_init 14 = .ok (.aload_n 0, 1) := by decide +kernel
theorem dX5_init_15 : decode cX5_init 15 = .ok (.iload_n 3, 1) := by decide +kernel
theorem dX5_init_16 : decode cX5_init 16 = .ok (.putfield 16, 3) := by decide +kernel
theorem dX5_init_19 : decode cX5_init 19 = .ok (.aload_n 0, 1) := by decide +kernel
theorem dX5_init_20 : decode cX5_init 20 = .ok (.lload 4, 2) := by decide +kernel
theorem dX5_init_22 : decode cX5_init 22 = .ok (.putfield 19, 3) := by decide +kernel
theorem dX5_init_25 : decode cX5_init 25 = .ok (.return_, 1) := by decide +kernel
