theorem dX7_deliver_117 : decode cX7_deliver 117 = .ok (.aload_n 0, 1) := by decide +kernel
theorem dX7_deliver_118 : decode cX7_deliver 118 = .ok (.getfield 53, 3) := by decide +kernel
theorem dX7_deliver_121 : decode cX7_deliver 121 = .ok (.iload_n 3, 1) := by decide +kernel
theorem dX7_deliver_122 : decode cX7_deliver 122 = .ok (.baload, 1) := by decide +kernel
theorem dX7_deliver_123 : decode cX7_deliver 123 = .ok (.ifCond .eq 7, 3) := by decide +kernel
theorem dX7_deliver_126 : decode cX7_deliver 126 = .ok (.iconst 0, 1) := by decide +kernel
theorem dX7_deliver_127 : decode cX7_deliver 127 = .ok (.goto 11, 3) := by decide +kernel
theorem dX7_deliver_130 : decode cX7_deliver 130 = .ok (.aload_n 0, 1) := by decide +kernel
theorem dX7_deliver_131 : decode cX7_deliver 131 = .ok (.iload_n 2, 1) := by decide +kernel
theorem dX7_deliver_132 : decode cX7_deliver 132 = .ok (.iload_n 3, 1) := by decide +kernel
theorem dX7_deliver_133 : decode cX7_deliver 133 = .ok (.iload 4, 2) := by decide +kernel
theorem dX7_deliver_135 : decode cX7_deliver 135 = .ok (.invokevirtual 200, 3) := by decide +kernel
theorem dX7_deliver_138 : decode cX7_deliver 138 = .ok (.ireturn, 1) := by decide +kernel
theorem dX7_deliver_139 : decode cX7_deliver 139 = .ok (.iload 5, 2) := by decide +kernel
theorem dX7_deliver_141 : decode cX7_deliver 141 = .ok (.iconst 3, 1) := by decide +kernel
theorem dX7_deliver_142 : decode cX7_deliver 142 = .ok (.if_icmp .ne 14, 3) := by decide +kernel
theorem dX7_deliver_145 : decode cX7_deliver 145 = .ok (.aload_n 0, 1) := by decide +kernel
theorem dX7_deliver_146 : decode cX7_deliver 146 = .ok (.iload_n 2, 1) := by decide +kernel
theorem dX7_deliver_147 : decode cX7_deliver 147 = .ok (.iload_n 3, 1) := by decide +kernel
theorem dX7_deliver_148 : decode cX7_deliver 148 = .ok (.iload 4, 2) := by decide +kernel
theorem dX7_deliver_150 : decode cX7_deliver 150 = .ok (.invokevirtual 203, 3) := by decide +kernel
theorem dX7_deliver_153 : decode cX7_deliver 153 = .ok (.goto 12, 3) := by decide +kernel
theorem dX7_deliver_156 : decode cX7_deliver 156 = .ok (.aload_n 0, 1) := by decide +kernel
theorem dX7_deliver_157 : decode cX7_deliver 157 = .ok (.iload_n 2, 1) := by decide +kernel
theorem dX7_deliver_158 : decode cX7_deliver 158 = .ok (.iload 4, 2) := by decide +kernel
theorem dX7_deliver_160 : decode cX7_deliver 160 = .ok (.iload 6, 2) := by decide +kernel
theorem dX7_deliver_162 : decode cX7_deliver 162 = .ok (.invokevirtual 206, 3) := by decide +kernel
theorem dX7_deliver_165 : decode cX7_deliver 165 = .ok (.ireturn, 1) := by decide +kernel
theorem dX7_issuer_0 : decode cX7_issuer 0 = .ok (.aload_n 0, 1) := by decide +kernel
theorem dX7_issuer_1 : decode cX7_issuer 1 = .ok (.iload_n 1, 1) := by decide +kernel
theorem dX7_issuer_2 : decode cX7_issuer 2 = .ok (.invokevirtual 118, 3) := by decide +kernel
theorem dX7_issuer_5 : decode cX7_issuer 5 = .ok (.ifCond .ne 5, 3) := by decide +kernel
theorem dX7_issuer_8 : decode cX7_issuer 8 = .ok (.lconst 0, 1) := by decide +kernel
theorem dX7_issuer_9 : decode cX7_issuer 9 = .ok (.lreturn, 1) := by decide +kernel
theorem dX7_issuer_10 : decode cX7_issuer 10 = .ok (.aload_n 0, 1) := by decide +kernel
theorem dX7_issuer_11 : decode cX7_issuer 11 = .ok (.iload_n 2, 1) := by decide +kernel
theorem dX7_issuer_12 : decode cX7_issuer 12 = .ok (.ifCond .lt 9, 3) := by decide +kernel
theorem dX7_issuer_15 : decode cX7_issuer 15 = .ok (.iload_n 2, 1) := by decide +kernel
theorem dX7_issuer_16 : decode cX7_issuer 16 = .ok (.bipush 7, 2) := by decide +kernel
theorem dX7_issuer_18 : decode cX7_issuer 18 = .ok (.if_icmp .le 7, 3) := by decide +kernel
theorem dX7_issuer_21 : decode cX7_issuer 21 = .ok (.iconst 1, 1) := by decide +kernel
theorem dX7_issuer_22 : decode cX7_issuer 22 = .ok (.goto 4, 3) := by decide +kernel
theorem dX7_issuer_25 : decode cX7_issuer 25 = .ok (.iconst 0, 1) := by decide +kernel
theorem dX7_issuer_26 : decode cX7_issuer 26 = .ok (.putfield 114, 3) := by decide +kernel
theorem dX7_issuer_29 : decode cX7_issuer 29 = .ok (.aload_n 0, 1) := by decide +kernel
theorem dX7_issuer_30 : decode cX7_issuer 30 = .ok (.getfield 114, 3) := by decide +kernel
theorem dX7_issuer_33 : decode cX7_issuer 33 = .ok (.ifCond .eq 5, 3) := by decide +kernel
theorem dX7_issuer_36 : decode cX7_issuer 36 = .ok (.lconst 0, 1) := by decide +kernel
theorem dX7_issuer_37 : decode cX7_issuer 37 = .ok (.lreturn, 1) := by decide +kernel
theorem dX7_issuer_38 : decode cX7_issuer 38 = .ok (.iload_n 2, 1) := by decide +kernel
theorem dX7_issuer_39 : decode cX7_issuer 39 = .ok (.ifCond .ne 18, 3) := by decide +kernel
theorem dX7_issuer_42 : decode cX7_issuer 42 = .ok (.aload_n 0, 1) := by decide +kernel
theorem dX7_issuer_43 : decode cX7_issuer 43 = .ok (.getfield 90, 3) := by decide +kernel
theorem dX7_issuer_46 : decode cX7_issuer 46 = .ok (.iload_n 1, 1) := by decide +kernel
theorem dX7_issuer_47 : decode cX7_issuer 47 = .ok (.baload, 1) := by decide +kernel
theorem dX7_issuer_48 : decode cX7_issuer 48 = .ok (.ifCond .eq 7, 3) := by decide +kernel
theorem dX7_issuer_51 : decode cX7_issuer 51 = .ok (.lconst 1, 1) := by decide +kernel
theorem dX7_issuer_52 : decode cX7_issuer 52 = .ok (.goto 4, 3) := by decide +kernel
theorem dX7_issuer_55 : decode cX7_issuer 55 = .ok (.lconst 0, 1) := by decide +kernel
theorem dX7_issuer_56 : decode cX7_issuer 56 = .ok (.lreturn, 1) := by decide +kernel
theorem dX7_issuer_57 : decode cX7_issuer 57 = .ok (.iload_n 2, 1) := by decide +kernel
theorem dX7_issuer_58 : decode cX7_issuer 58 = .ok (.iconst 1, 1) := by decide +kernel
theorem dX7_issuer_59 : decode cX7_issuer 59 = .ok (.if_icmp .ne 11, 3) := by decide +kernel
theorem dX7_issuer_62 : decode cX7_issuer 62 = .ok (.aload_n 0, 1) := by decide +kernel
theorem dX7_issuer_63 : decode cX7_issuer 63 = .ok (.getfield 63, 3) := by decide +kernel
theorem dX7_issuer_66 : decode cX7_issuer 66 = .ok (.iload_n 1, 1) := by decide +kernel
theorem dX7_issuer_67 : decode cX7_issuer 67 = .ok (.iaload, 1) := by decide +kernel
theorem dX7_issuer_68 : decode cX7_issuer 68 = .ok (.i2l, 1) := by decide +kernel
theorem dX7_issuer_69 : decode cX7_issuer 69 = .ok (.lreturn, 1) := by decide +kernel
theorem dX7_issuer_70 : decode cX7_issuer 70 = .ok (.iload_n 2, 1) := by decide +kernel
theorem dX7_issuer_71 : decode cX7_issuer 71 = .ok (.bipush 6, 2) := by decide +kernel
theorem dX7_issuer_73 : decode cX7_issuer 73 = .ok (.if_icmp .ne 11, 3) := by decide +kernel
theorem dX7_issuer_76 : decode cX7_issuer 76 = .ok (.aload_n 0, 1) := by decide +kernel
theorem dX7_issuer_77 : decode cX7_issuer 77 = .ok (.getfield 108, 3) := by decide +kernel
theorem dX7_issuer_80 : decode cX7_issuer 80 = .ok (.iload_n 1, 1) := by decide +kernel
theorem dX7_issuer_81 : decode cX7_issuer 81 = .ok (.iaload, 1) := by decide +kernel
theorem dX7_issuer_82 : decode cX7_issuer 82 = .ok (.i2l, 1) := by decide +kernel
theorem dX7_issuer_83 : decode cX7_issuer 83 = .ok (.lreturn, 1) := by decide +kernel
theorem dX7_issuer_84 : decode cX7_issuer 84 = .ok (.iload_n 2, 1) := by decide +kernel
theorem dX7_issuer_85 : decode cX7_issuer 85 = .ok (.bipush 7, 2) := by decide +kernel
theorem dX7_issuer_87 : decode cX7_issuer 87 = .ok (.if_icmp .ne 10, 3) := by decide +kernel
theorem dX7_issuer_90 : decode cX7_issuer 90 = .ok (.aload_n 0, 1) := by decide +kernel
theorem dX7_issuer_91 : decode cX7_issuer 91 = .ok (.getfield 111, 3) := by decide +kernel
theorem dX7_issuer_94 : decode cX7_issuer 94 = .ok (.iload_n 1, 1) := by decide +kernel
theorem dX7_issuer_95 : decode cX7_issuer 95 = .ok (.laload, 1) := by decide +kernel
theorem dX7_issuer_96 : decode cX7_issuer 96 = .ok (.lreturn, 1) := by decide +kernel
theorem dX7_issuer_97 : decode cX7_issuer 97 = .ok (.aload_n 0, 1) := by decide +kernel
theorem dX7_issuer_98 : decode cX7_issuer 98 = .ok (.getfield 90, 3) := by decide +kernel
theorem dX7_issuer_101 : decode cX7_issuer 101 = .ok (.iload_n 1, 1) := by decide +kernel
theorem dX7_issuer_102 : decode cX7_issuer 102 = .ok (.baload, 1) := by decide +kernel
theorem dX7_issuer_103 : decode cX7_issuer 103 = .ok (.ifCond .ne 7, 3) := by decide +kernel
theorem dX7_issuer_106 : decode cX7_issuer 106 = .ok (.ldc2_w 192, 3) := by decide +kernel
theorem dX7_issuer_109 : decode cX7_issuer 109 = .ok (.lreturn, 1) := by decide +kernel
theorem dX7_issuer_110 : decode cX7_issuer 110 = .ok (.iload_n 2, 1) := by decide +kernel
theorem dX7_issuer_111 : decode cX7_issuer 111 = .ok (.iconst 2, 1) := by decide +kernel
theorem dX7_issuer_112 : decode cX7_issuer 112 = .ok (.if_icmp .ne 13, 3) := by decide +kernel
theorem dX7_issuer_115 : decode cX7_issuer 115 = .ok (.aload_n 0, 1) := by decide +kernel
theorem dX7_issuer_116 : decode cX7_issuer 116 = .ok (.getfield 93, 3) := by decide +kernel
theorem dX7_issuer_119 : decode cX7_issuer 119 = .ok (.iload_n 1, 1) := by decide +kernel
theorem dX7_issuer_120 : decode cX7_issuer 120 = .ok (.iaload, 1) := by decide +kernel
theorem dX7_issuer_121 : decode cX7_issuer 121 = .ok (.i2l, 1) := by decide +kernel
theorem dX7_issuer_122 : decode cX7_issuer 122 = .ok (.goto 42, 3) := by decide +kernel
theorem dX7_issuer_125 : decode cX7_issuer 125 = .ok (.iload_n 2, 1) := by decide +kernel
theorem dX7_issuer_126 : decode cX7_issuer 126 = .ok (.iconst 3, 1) := by decide +kernel
theorem dX7_issuer_127 : decode cX7_issuer 127 = .ok (.if_icmp .ne 13, 3) := by decide +kernel
theorem dX7_issuer_130 : decode cX7_issuer 130 = .ok (.aload_n 0, 1) := by decide +kernel
theorem dX7_issuer_131 : decode cX7_issuer 131 = .ok (.getfield 96, 3) := by decide +kernel
theorem dX7_issuer_134 : decode cX7_issuer 134 = .ok (.iload_n 1, 1) := by decide +kernel
theorem dX7_issuer_135 : decode cX7_issuer 135 = .ok (.iaload, 1) := by decide +kernel
theorem dX7_issuer_136 : decode cX7_issuer 136 = .ok (.i2l, 1) := by decide +kernel
theorem dX7_issuer_137 : decode cX7_issuer 137 = .ok (.goto 27, 3) := by decide +kernel
theorem dX7_issuer_140 : decode cX7_issuer 140 = .ok (.iload_n 2, 1) := by decide +kernel
theorem dX7_issuer_141 : decode cX7_issuer 141 = .ok (.iconst 4, 1) := by decide +kernel
theorem dX7_issuer_142 : decode cX7_issuer 142 = .ok (.if_icmp .ne 16, 3) := by decide +kernel
theorem dX7_issuer_145 : decode cX7_issuer 145 = .ok (.aload_n 0, 1) := by decide +kernel
theorem dX7_issuer_146 : decode cX7_issuer 146 = .ok (.getfield 99, 3) := by decide +kernel
theorem dX7_issuer_149 : decode cX7_issuer 149 = .ok (.iload_n 1, 1) := by decide +kernel
theorem dX7_issuer_150 : decode cX7_issuer 150 = .ok (.laload, 1) := by decide +kernel
theorem dX7_issuer_151 : decode cX7_issuer 151 = .ok (.ldc2_w 184, 3) := by decide +kernel
theorem dX7_issuer_154 : decode cX7_issuer 154 = .ok (.ladd, 1) := by decide +kernel
theorem dX7_issuer_155 : decode cX7_issuer 155 = .ok (.goto 9, 3) := by decide +kernel
theorem dX7_issuer_158 : decode cX7_issuer 158 = .ok (.aload_n 0, 1) := by decide +kernel
theorem dX7_issuer_159 : decode cX7_issuer 159 = .ok (.getfield 102, 3) := by decide +kernel
theorem dX7_issuer_162 : decode cX7_issuer 162 = .ok (.iload_n 1, 1) := by decide +kernel
theorem dX7_issuer_163 : decode cX7_issuer 163 = .ok (.laload, 1) := by decide +kernel
theorem dX7_issuer_164 : decode cX7_issuer 164 = .ok (.lreturn, 1) := by decide +kernel
theorem dX7_give_0 : decode cX7_give 0 = .ok (.aload_n 0, 1) := by decide +kernel
theorem dX7_give_1 : decode cX7_give 1 = .ok (.getfield 90, 3) := by decide +kernel
theorem dX7_give_4 : decode cX7_give 4 = .ok (.iload_n 1, 1) := by decide +kernel
theorem dX7_give_5 : decode cX7_give 5 = .ok (.baload, 1) := by decide +kernel
theorem dX7_give_6 : decode cX7_give 6 = .ok (.ifCond .ne 5, 3) := by decide +kernel
theorem dX7_give_9 : decode cX7_give 9 = .ok (.lconst 0, 1) := by decide +kernel
theorem dX7_give_10 : decode cX7_give 10 = .ok (.lreturn, 1) := by decide +kernel
theorem dX7_give_11 : decode cX7_give 11 = .ok (.aload_n 0, 1) := by decide +kernel
theorem dX7_give_12 : decode cX7_give 12 = .ok (.getfield 60, 3) := by decide +kernel
theorem dX7_give_15 : decode cX7_give 15 = .ok (.iload_n 1, 1) := by decide +kernel
theorem dX7_give_16 : decode cX7_give 16 = .ok (.laload, 1) := by decide +kernel
theorem dX7_give_17 : decode cX7_give 17 = .ok (.lstore_n 3, 1) := by decide +kernel
theorem dX7_give_18 : decode cX7_give 18 = .ok (.aload_n 0, 1) := by decide +kernel
theorem dX7_give_19 : decode cX7_give 19 = .ok (.getfield 99, 3) := by decide +kernel
theorem dX7_give_22 : decode cX7_give 22 = .ok (.iload_n 1, 1) := by decide +kernel
theorem dX7_give_23 : decode cX7_give 23 = .ok (.laload, 1) := by decide +kernel
theorem dX7_give_24 : decode cX7_give 24 = .ok (.lload_n 3, 1) := by decide +kernel
theorem dX7_give_25 : decode cX7_give 25 = .ok (.lcmp, 1) := by decide +kernel
theorem dX7_give_26 : decode cX7_give 26 = .ok (.ifCond .le 12, 3) := by decide +kernel
theorem dX7_give_29 : decode cX7_give 29 = .ok (.aload_n 0, 1) := by decide +kernel
theorem dX7_give_30 : decode cX7_give 30 = .ok (.getfield 99, 3) := by decide +kernel
theorem dX7_give_33 : decode cX7_give 33 = .ok (.iload_n 1, 1) := by decide +kernel
theorem dX7_give_34 : decode cX7_give 34 = .ok (.laload, 1) := by decide +kernel
theorem dX7_give_35 : decode cX7_give 35 = .ok (.goto 4, 3) := by decide +kernel
theorem dX7_give_38 : decode cX7_give 38 = .ok (.lload_n 3, 1) := by decide +kernel
theorem dX7_give_39 : decode cX7_give 39 = .ok (.lstore_n 3, 1) := by decide +kernel
theorem dX7_give_40 : decode cX7_give 40 = .ok (.aload_n 0, 1) := by decide +kernel
theorem dX7_give_41 : decode cX7_give 41 = .ok (.getfield 102, 3) := by decide +kernel
theorem dX7_give_44 : decode cX7_give 44 = .ok (.iload_n 1, 1) := by decide +kernel
theorem dX7_give_45 : decode cX7_give 45 = .ok (.laload, 1) := by decide +kernel
theorem dX7_give_46 : decode cX7_give 46 = .ok (.lload_n 3, 1) := by decide +kernel
theorem dX7_give_47 : decode cX7_give 47 = .ok (.lcmp, 1) := by decide +kernel
theorem dX7_give_48 : decode cX7_give 48 = .ok (.ifCond .le 12, 3) := by decide +kernel
theorem dX7_give_51 : decode cX7_give 51 = .ok (.aload_n 0, 1) := by decide +kernel
theorem dX7_give_52 : decode cX7_give 52 = .ok (.getfield 102, 3) := by decide +kernel
theorem dX7_give_55 : decode cX7_give 55 = .ok (.iload_n 1, 1) := by decide +kernel
theorem dX7_give_56 : decode cX7_give 56 = .ok (.laload, 1) := by decide +kernel
theorem dX7_give_57 : decode cX7_give 57 = .ok (.goto 4, 3) := by decide +kernel
theorem dX7_give_60 : decode cX7_give 60 = .ok (.lload_n 3, 1) := by decide +kernel
theorem dX7_give_61 : decode cX7_give 61 = .ok (.lstore_n 3, 1) := by decide +kernel
theorem dX7_give_62 : decode cX7_give 62 = .ok (.aload_n 0, 1) := by decide +kernel
theorem dX7_give_63 : decode cX7_give 63 = .ok (.getfield 102, 3) := by decide +kernel
theorem dX7_give_66 : decode cX7_give 66 = .ok (.iload_n 1, 1) := by decide +kernel
theorem dX7_give_67 : decode cX7_give 67 = .ok (.laload, 1) := by decide +kernel
theorem dX7_give_68 : decode cX7_give 68 = .ok (.lload_n 3, 1) := by decide +kernel
theorem dX7_give_69 : decode cX7_give 69 = .ok (.lcmp, 1) := by decide +kernel
theorem dX7_give_70 : decode cX7_give 70 = .ok (.ifCond .ne 14, 3) := by decide +kernel
theorem dX7_give_73 : decode cX7_give 73 = .ok (.aload_n 0, 1) := by decide +kernel
theorem dX7_give_74 : decode cX7_give 74 = .ok (.getfield 105, 3) := by decide +kernel
theorem dX7_give_77 : decode cX7_give 77 = .ok (.iload_n 1, 1) := by decide +kernel
theorem dX7_give_78 : decode cX7_give 78 = .ok (.iaload, 1) := by decide +kernel
theorem dX7_give_79 : decode cX7_give 79 = .ok (.iconst 1, 1) := by decide +kernel
theorem dX7_give_80 : decode cX7_give 80 = .ok (.iadd, 1) := by decide +kernel
theorem dX7_give_81 : decode cX7_give 81 = .ok (.goto 4, 3) := by decide +kernel
theorem dX7_give_84 : decode cX7_give 84 = .ok (.iconst 0, 1) := by decide +kernel
theorem dX7_give_85 : decode cX7_give 85 = .ok (.istore 5, 2) := by decide +kernel
theorem dX7_give_87 : decode cX7_give 87 = .ok (.iload 5, 2) := by decide +kernel
theorem dX7_give_89 : decode cX7_give 89 = .ok (.iload_n 2, 1) := by decide +kernel
theorem dX7_give_90 : decode cX7_give 90 = .ok (.iadd, 1) := by decide +kernel
theorem dX7_give_91 : decode cX7_give 91 = .ok (.sipush 1024, 3) := by decide +kernel
theorem dX7_give_94 : decode cX7_give 94 = .ok (.if_icmp .le 10, 3) := by decide +kernel
theorem dX7_give_97 : decode cX7_give 97 = .ok (.lload_n 3, 1) := by decide +kernel
theorem dX7_give_98 : decode cX7_give 98 = .ok (.lconst 1, 1) := by decide +kernel
theorem dX7_give_99 : decode cX7_give 99 = .ok (.ladd, 1) := by decide +kernel
theorem dX7_give_100 : decode cX7_give 100 = .ok (.lstore_n 3, 1) := by decide +kernel
theorem dX7_give_101 : decode cX7_give 101 = .ok (.iconst 0, 1) := by decide +kernel
theorem dX7_give_102 : decode cX7_give 102 = .ok (.istore 5, 2) := by decide +kernel
theorem dX7_give_104 : decode cX7_give 104 = .ok (.lload_n 3, 1) := by decide +kernel
theorem dX7_give_105 : decode cX7_give 105 = .ok (.aload_n 0, 1) := by decide +kernel
theorem dX7_give_106 : decode cX7_give 106 = .ok (.getfield 99, 3) := by decide +kernel
theorem dX7_give_109 : decode cX7_give 109 = .ok (.iload_n 1, 1) := by decide +kernel
theorem dX7_give_110 : decode cX7_give 110 = .ok (.laload, 1) := by decide +kernel
theorem dX7_give_111 : decode cX7_give 111 = .ok (.ldc2_w 184, 3) := by decide +kernel
theorem dX7_give_114 : decode cX7_give 114 = .ok (.ladd, 1) := by decide +kernel
theorem dX7_give_115 : decode cX7_give 115 = .ok (.lcmp, 1) := by decide +kernel
theorem dX7_give_116 : decode cX7_give 116 = .ok (.ifCond .gt 18, 3) := by decide +kernel
theorem dX7_give_119 : decode cX7_give 119 = .ok (.lload_n 3, 1) := by decide +kernel
theorem dX7_give_120 : decode cX7_give 120 = .ok (.aload_n 0, 1) := by decide +kernel
theorem dX7_give_121 : decode cX7_give 121 = .ok (.getfield 60, 3) := by decide +kernel
theorem dX7_give_124 : decode cX7_give 124 = .ok (.iload_n 1, 1) := by decide +kernel
theorem dX7_give_125 : decode cX7_give 125 = .ok (.laload, 1) := by decide +kernel
theorem dX7_give_126 : decode cX7_give 126 = .ok (.lsub, 1) := by decide +kernel
theorem dX7_give_127 : decode cX7_give 127 = .ok (.ldc2_w 209, 3) := by decide +kernel
theorem dX7_give_130 : decode cX7_give 130 = .ok (.lcmp, 1) := by decide +kernel
theorem dX7_give_131 : decode cX7_give 131 = .ok (.ifCond .le 5, 3) := by decide +kernel
theorem dX7_give_134 : decode cX7_give 134 = .ok (.lconst 0, 1) := by decide +kernel
theorem dX7_give_135 : decode cX7_give 135 = .ok (.lreturn, 1) := by decide +kernel
theorem dX7_give_136 : decode cX7_give 136 = .ok (.aload_n 0, 1) := by decide +kernel
theorem dX7_give_137 : decode cX7_give 137 = .ok (.getfield 102, 3) := by decide +kernel
theorem dX7_give_140 : decode cX7_give 140 = .ok (.iload_n 1, 1) := by decide +kernel
theorem dX7_give_141 : decode cX7_give 141 = .ok (.lload_n 3, 1) := by decide +kernel
theorem dX7_give_142 : decode cX7_give 142 = .ok (.lastore, 1) := by decide +kernel
theorem dX7_give_143 : decode cX7_give 143 = .ok (.aload_n 0, 1) := by decide +kernel
theorem dX7_give_144 : decode cX7_give 144 = .ok (.getfield 105, 3) := by decide +kernel
theorem dX7_give_147 : decode cX7_give 147 = .ok (.iload_n 1, 1) := by decide +kernel
theorem dX7_give_148 : decode cX7_give 148 = .ok (.iload 5, 2) := by decide +kernel
theorem dX7_give_150 : decode cX7_give 150 = .ok (.iload_n 2, 1) := by decide +kernel
theorem dX7_give_151 : decode cX7_give 151 = .ok (.iadd, 1) := by decide +kernel
theorem dX7_give_152 : decode cX7_give 152 = .ok (.iconst 1, 1) := by decide +kernel
theorem dX7_give_153 : decode cX7_give 153 = .ok (.isub, 1) := by decide +kernel
theorem dX7_give_154 : decode cX7_give 154 = .ok (.iastore, 1) := by decide +kernel
theorem dX7_give_155 : decode cX7_give 155 = .ok (.aload_n 0, 1) := by decide +kernel
theorem dX7_give_156 : decode cX7_give 156 = .ok (.getfield 111, 3) := by decide +kernel
theorem dX7_give_159 : decode cX7_give 159 = .ok (.iload_n 1, 1) := by decide +kernel
theorem dX7_give_160 : decode cX7_give 160 = .ok (.dup2, 1) := by decide +kernel
theorem dX7_give_161 : decode cX7_give 161 = .ok (.laload, 1) := by decide +kernel
theorem dX7_give_162 : decode cX7_give 162 = .ok (.iload_n 2, 1) := by decide +kernel
theorem dX7_give_163 : decode cX7_give 163 = .ok (.i2l, 1) := by decide +kernel
theorem dX7_give_164 : decode cX7_give 164 = .ok (.ladd, 1) := by decide +kernel
theorem dX7_give_165 : decode cX7_give 165 = .ok (.lastore, 1) := by decide +kernel
theorem dX7_give_166 : decode cX7_give 166 = .ok (.lload_n 3, 1) := by decide +kernel
theorem dX7_give_167 : decode cX7_give 167 = .ok (.ldc2_w 211, 3) := by decide +kernel
theorem dX7_give_170 : decode cX7_give 170 = .ok (.lmul, 1) := by decide +kernel
theorem dX7_give_171 : decode cX7_give 171 = .ok (.aload_n 0, 1) := by decide +kernel
theorem dX7_give_172 : decode cX7_give 172 = .ok (.getfield 93, 3) := by decide +kernel
theorem dX7_give_175 : decode cX7_give 175 = .ok (.iload_n 1, 1) := by decide +kernel
theorem dX7_give_176 : decode cX7_give 176 = .ok (.iaload, 1) := by decide +kernel
theorem dX7_give_177 : decode cX7_give 177 = .ok (.i2l, 1) := by decide +kernel
theorem dX7_give_178 : decode cX7_give 178 = .ok (.ldc2_w 213, 3) := by decide +kernel
theorem dX7_give_181 : decode cX7_give 181 = .ok (.lmul, 1) := by decide +kernel
theorem dX7_give_182 : decode cX7_give 182 = .ok (.ladd, 1) := by decide +kernel
theorem dX7_give_183 : decode cX7_give 183 = .ok (.iload 5, 2) := by decide +kernel
theorem dX7_give_185 : decode cX7_give 185 = .ok (.i2l, 1) := by decide +kernel
theorem dX7_give_186 : decode cX7_give 186 = .ok (.ladd, 1) := by decide +kernel
theorem dX7_give_187 : decode cX7_give 187 = .ok (.lreturn, 1) := by decide +kernel
theorem dX7_next_0 : decode cX7_next 0 = .ok (.aload_n 0, 1) := by decide +kernel
theorem dX7_next_1 : decode cX7_next 1 = .ok (.iload_n 1, 1) := by decide +kernel
theorem dX7_next_2 : decode cX7_next 2 = .ok (.invokevirtual 118, 3) := by decide +kernel
theorem dX7_next_5 : decode cX7_next 5 = .ok (.ifCond .eq 12, 3) := by decide +kernel
theorem dX7_next_8 : decode cX7_next 8 = .ok (.aload_n 0, 1) := by decide +kernel
theorem dX7_next_9 : decode cX7_next 9 = .ok (.iload_n 1, 1) := by decide +kernel
theorem dX7_next_10 : decode cX7_next 10 = .ok (.iconst 1, 1) := by decide +kernel
theorem dX7_next_11 : decode cX7_next 11 = .ok (.invokevirtual 215, 3) := by decide +kernel
theorem dX7_next_14 : decode cX7_next 14 = .ok (.goto 4, 3) := by decide +kernel
theorem dX7_next_17 : decode cX7_next 17 = .ok (.lconst 0, 1) := by decide +kernel
theorem dX7_next_18 : decode cX7_next 18 = .ok (.lreturn, 1) := by decide +kernel
theorem dX7_batch_0 : decode cX7_batch 0 = .ok (.aload_n 0, 1) := by decide +kernel
theorem dX7_batch_1 : decode cX7_batch 1 = .ok (.iload_n 1, 1) := by decide +kernel
theorem dX7_batch_2 : decode cX7_batch 2 = .ok (.invokevirtual 118, 3) := by decide +kernel
theorem dX7_batch_5 : decode cX7_batch 5 = .ok (.ifCond .ne 5, 3) := by decide +kernel
theorem dX7_batch_8 : decode cX7_batch 8 = .ok (.lconst 0, 1) := by decide +kernel
theorem dX7_batch_9 : decode cX7_batch 9 = .ok (.lreturn, 1) := by decide +kernel
theorem dX7_batch_10 : decode cX7_batch 10 = .ok (.aload_n 0, 1) := by decide +kernel
theorem dX7_batch_11 : decode cX7_batch 11 = .ok (.iload_n 2, 1) := by decide +kernel
theorem dX7_batch_12 : decode cX7_batch 12 = .ok (.iconst 1, 1) := by decide +kernel
theorem dX7_batch_13 : decode cX7_batch 13 = .ok (.if_icmp .lt 10, 3) := by decide +kernel
theorem dX7_batch_16 : decode cX7_batch 16 = .ok (.iload_n 2, 1) := by decide +kernel
theorem dX7_batch_17 : decode cX7_batch 17 = .ok (.sipush 1024, 3) := by decide +kernel
theorem dX7_batch_20 : decode cX7_batch 20 = .ok (.if_icmp .le 7, 3) := by decide +kernel
theorem dX7_batch_23 : decode cX7_batch 23 = .ok (.iconst 2, 1) := by decide +kernel
theorem dX7_batch_24 : decode cX7_batch 24 = .ok (.goto 4, 3) := by decide +kernel
theorem dX7_batch_27 : decode cX7_batch 27 = .ok (.iconst 0, 1) := by decide +kernel
theorem dX7_batch_28 : decode cX7_batch 28 = .ok (.putfield 114, 3) := by decide +kernel
theorem dX7_batch_31 : decode cX7_batch 31 = .ok (.aload_n 0, 1) := by decide +kernel
theorem dX7_batch_32 : decode cX7_batch 32 = .ok (.getfield 114, 3) := by decide +kernel
theorem dX7_batch_35 : decode cX7_batch 35 = .ok (.ifCond .eq 7, 3) := by decide +kernel
theorem dX7_batch_38 : decode cX7_batch 38 = .ok (.lconst 0, 1) := by decide +kernel
theorem dX7_batch_39 : decode cX7_batch 39 = .ok (.goto 9, 3) := by decide +kernel
theorem dX7_batch_42 : decode cX7_batch 42 = .ok (.aload_n 0, 1) := by decide +kernel
theorem dX7_batch_43 : decode cX7_batch 43 = .ok (.iload_n 1, 1) := by decide +kernel
theorem dX7_batch_44 : decode cX7_batch 44 = .ok (.iload_n 2, 1) := by decide +kernel
theorem dX7_batch_45 : decode cX7_batch 45 = .ok (.invokevirtual 215, 3) := by decide +kernel
theorem dX7_batch_48 : decode cX7_batch 48 = .ok (.lreturn, 1) := by decide +kernel
theorem dX7_seat_0 : decode cX7_seat 0 = .ok (.aload_n 0, 1) := by decide +kernel
theorem dX7_seat_1 : decode cX7_seat 1 = .ok (.iload_n 1, 1) := by decide +kernel
theorem dX7_seat_2 : decode cX7_seat 2 = .ok (.ifCond .lt 18, 3) := by decide +kernel
theorem dX7_seat_5 : decode cX7_seat 5 = .ok (.iload_n 1, 1) := by decide +kernel
theorem dX7_seat_6 : decode cX7_seat 6 = .ok (.bipush 7, 2) := by decide +kernel
theorem dX7_seat_8 : decode cX7_seat 8 = .ok (.if_icmp .gt 12, 3) := by decide +kernel
theorem dX7_seat_11 : decode cX7_seat 11 = .ok (.iload_n 2, 1) := by decide +kernel
theorem dX7_seat_12 : decode cX7_seat 12 = .ok (.ifCond .lt 8, 3) := by decide +kernel
theorem dX7_seat_15 : decode cX7_seat 15 = .ok (.iload_n 2, 1) := by decide +kernel
theorem dX7_seat_16 : decode cX7_seat 16 = .ok (.iconst 2, 1) := by decide +kernel
theorem dX7_seat_17 : decode cX7_seat 17 = .ok (.if_icmp .le 7, 3) := by decide +kernel
theorem dX7_seat_20 : decode cX7_seat 20 = .ok (.iconst 1, 1) := by decide +kernel
theorem dX7_seat_21 : decode cX7_seat 21 = .ok (.goto 4, 3) := by decide +kernel
theorem dX7_seat_24 : decode cX7_seat 24 = .ok (.iconst 0, 1) := by decide +kernel
theorem dX7_seat_25 : decode cX7_seat 25 = .ok (.putfield 114, 3) := by decide +kernel
theorem dX7_seat_28 : decode cX7_seat 28 = .ok (.aload_n 0, 1) := by decide +kernel
theorem dX7_seat_29 : decode cX7_seat 29 = .ok (.getfield 114, 3) := by decide +kernel
theorem dX7_seat_32 : decode cX7_seat 32 = .ok (.ifCond .eq 5, 3) := by decide +kernel
theorem dX7_seat_35 : decode cX7_seat 35 = .ok (.lconst 0, 1) := by decide +kernel
theorem dX7_seat_36 : decode cX7_seat 36 = .ok (.lreturn, 1) := by decide +kernel
theorem dX7_seat_37 : decode cX7_seat 37 = .ok (.iconst 0, 1) := by decide +kernel
theorem dX7_seat_38 : decode cX7_seat 38 = .ok (.istore_n 3, 1) := by decide +kernel
theorem dX7_seat_39 : decode cX7_seat 39 = .ok (.iconst (-1), 1) := by decide +kernel
theorem dX7_seat_40 : decode cX7_seat 40 = .ok (.istore 4, 2) := by decide +kernel
theorem dX7_seat_42 : decode cX7_seat 42 = .ok (.iconst 0, 1) := by decide +kernel
theorem dX7_seat_43 : decode cX7_seat 43 = .ok (.istore 5, 2) := by decide +kernel
theorem dX7_seat_45 : decode cX7_seat 45 = .ok (.iload 5, 2) := by decide +kernel
theorem dX7_seat_47 : decode cX7_seat 47 = .ok (.iconst 5, 1) := by decide +kernel
theorem dX7_seat_48 : decode cX7_seat 48 = .ok (.if_icmp .ge 62, 3) := by decide +kernel
theorem dX7_seat_51 : decode cX7_seat 51 = .ok (.aload_n 0, 1) := by decide +kernel
theorem dX7_seat_52 : decode cX7_seat 52 = .ok (.getfield 53, 3) := by decide +kernel
theorem dX7_seat_55 : decode cX7_seat 55 = .ok (.iload 5, 2) := by decide +kernel
theorem dX7_seat_57 : decode cX7_seat 57 = .ok (.baload, 1) := by decide +kernel
theorem dX7_seat_58 : decode cX7_seat 58 = .ok (.ifCond .eq 6, 3) := by decide +kernel
theorem dX7_seat_61 : decode cX7_seat 61 = .ok (.goto 43, 3) := by decide +kernel
theorem dX7_seat_64 : decode cX7_seat 64 = .ok (.iinc 3 1, 3) := by decide +kernel
theorem dX7_seat_67 : decode cX7_seat 67 = .ok (.aload_n 0, 1) := by decide +kernel
theorem dX7_seat_68 : decode cX7_seat 68 = .ok (.iload 5, 2) := by decide +kernel
theorem dX7_seat_70 : decode cX7_seat 70 = .ok (.iload_n 1, 1) := by decide +kernel
theorem dX7_seat_71 : decode cX7_seat 71 = .ok (.aload_n 0, 1) := by decide +kernel
theorem dX7_seat_72 : decode cX7_seat 72 = .ok (.getfield 171, 3) := by decide +kernel
theorem dX7_seat_75 : decode cX7_seat 75 = .ok (.invokevirtual 153, 3) := by decide +kernel
theorem dX7_seat_78 : decode cX7_seat 78 = .ok (.istore 6, 2) := by decide +kernel
theorem dX7_seat_80 : decode cX7_seat 80 = .ok (.aload_n 0, 1) := by decide +kernel
theorem dX7_seat_81 : decode cX7_seat 81 = .ok (.iload 6, 2) := by decide +kernel
theorem dX7_seat_83 : decode cX7_seat 83 = .ok (.invokevirtual 157, 3) := by decide +kernel
theorem dX7_seat_86 : decode cX7_seat 86 = .ok (.aload_n 0, 1) := by decide +kernel
theorem dX7_seat_87 : decode cX7_seat 87 = .ok (.iload 4, 2) := by decide +kernel
theorem dX7_seat_89 : decode cX7_seat 89 = .ok (.invokevirtual 157, 3) := by decide +kernel
theorem dX7_seat_92 : decode cX7_seat 92 = .ok (.if_icmp .le 8, 3) := by decide +kernel
theorem dX7_seat_95 : decode cX7_seat 95 = .ok (.iload 6, 2) := by decide +kernel
theorem dX7_seat_97 : decode cX7_seat 97 = .ok (.goto 5, 3) := by decide +kernel
theorem dX7_seat_100 : decode cX7_seat 100 = .ok (.iload 4, 2) := by decide +kernel
theorem dX7_seat_102 : decode cX7_seat 102 = .ok (.istore 4, 2) := by decide +kernel
theorem dX7_seat_104 : decode cX7_seat 104 = .ok (.iinc 5 1, 3) := by decide +kernel
theorem dX7_seat_107 : decode cX7_seat 107 = .ok (.goto (-62), 3) := by decide +kernel
theorem dX7_seat_110 : decode cX7_seat 110 = .ok (.iload_n 3, 1) := by decide +kernel
theorem dX7_seat_111 : decode cX7_seat 111 = .ok (.iconst 3, 1) := by decide +kernel
theorem dX7_seat_112 : decode cX7_seat 112 = .ok (.if_icmp .lt 8, 3) := by decide +kernel
theorem dX7_seat_115 : decode cX7_seat 115 = .ok (.iload 4, 2) := by decide +kernel
theorem dX7_seat_117 : decode cX7_seat 117 = .ok (.ifCond .ge 7, 3) := by decide +kernel
theorem dX7_seat_120 : decode cX7_seat 120 = .ok (.ldc2_w 192, 3) := by decide +kernel
theorem dX7_seat_123 : decode cX7_seat 123 = .ok (.lreturn, 1) := by decide +kernel
theorem dX7_seat_124 : decode cX7_seat 124 = .ok (.iload_n 2, 1) := by decide +kernel
theorem dX7_seat_125 : decode cX7_seat 125 = .ok (.ifCond .ne 13, 3) := by decide +kernel
theorem dX7_seat_128 : decode cX7_seat 128 = .ok (.aload_n 0, 1) := by decide +kernel
theorem dX7_seat_129 : decode cX7_seat 129 = .ok (.iload 4, 2) := by decide +kernel
theorem dX7_seat_131 : decode cX7_seat 131 = .ok (.invokevirtual 164, 3) := by decide +kernel
theorem dX7_seat_134 : decode cX7_seat 134 = .ok (.i2l, 1) := by decide +kernel
theorem dX7_seat_135 : decode cX7_seat 135 = .ok (.goto 24, 3) := by decide +kernel
theorem dX7_seat_138 : decode cX7_seat 138 = .ok (.iload_n 2, 1) := by decide +kernel
theorem dX7_seat_139 : decode cX7_seat 139 = .ok (.iconst 1, 1) := by decide +kernel
theorem dX7_seat_140 : decode cX7_seat 140 = .ok (.if_icmp .ne 13, 3) := by decide +kernel
theorem dX7_seat_143 : decode cX7_seat 143 = .ok (.aload_n 0, 1) := by decide +kernel
theorem dX7_seat_144 : decode cX7_seat 144 = .ok (.iload 4, 2) := by decide +kernel
theorem dX7_seat_146 : decode cX7_seat 146 = .ok (.invokevirtual 189, 3) := by decide +kernel
theorem dX7_seat_149 : decode cX7_seat 149 = .ok (.i2l, 1) := by decide +kernel
theorem dX7_seat_150 : decode cX7_seat 150 = .ok (.goto 9, 3) := by decide +kernel
theorem dX7_seat_153 : decode cX7_seat 153 = .ok (.aload_n 0, 1) := by decide +kernel
theorem dX7_seat_154 : decode cX7_seat 154 = .ok (.iload 4, 2) := by decide +kernel
theorem dX7_seat_156 : decode cX7_seat 156 = .ok (.invokevirtual 180, 3) := by decide +kernel
theorem dX7_seat_159 : decode cX7_seat 159 = .ok (.lreturn, 1) := by decide +kernel
theorem dX7_part_0 : decode cX7_part 0 = .ok (.aload_n 0, 1) := by decide +kernel
theorem dX7_part_1 : decode cX7_part 1 = .ok (.lload_n 1, 1) := by decide +kernel
theorem dX7_part_2 : decode cX7_part 2 = .ok (.lconst 0, 1) := by decide +kernel
theorem dX7_part_3 : decode cX7_part 3 = .ok (.lcmp, 1) := by decide +kernel
theorem dX7_part_4 : decode cX7_part 4 = .ok (.ifCond .lt 12, 3) := by decide +kernel
theorem dX7_part_7 : decode cX7_part 7 = .ok (.iload_n 3, 1) := by decide +kernel
theorem dX7_part_8 : decode cX7_part 8 = .ok (.ifCond .lt 8, 3) := by decide +kernel
theorem dX7_part_11 : decode cX7_part 11 = .ok (.iload_n 3, 1) := by decide +kernel
theorem dX7_part_12 : decode cX7_part 12 = .ok (.iconst 2, 1) := by decide +kernel
theorem dX7_part_13 : decode cX7_part 13 = .ok (.if_icmp .le 7, 3) := by decide +kernel
theorem dX7_part_16 : decode cX7_part 16 = .ok (.iconst 1, 1) := by decide +kernel
theorem dX7_part_17 : decode cX7_part 17 = .ok (.goto 4, 3) := by decide +kernel
theorem dX7_part_20 : decode cX7_part 20 = .ok (.iconst 0, 1) := by decide +kernel
theorem dX7_part_21 : decode cX7_part 21 = .ok (.putfield 114, 3) := by decide +kernel
theorem dX7_part_24 : decode cX7_part 24 = .ok (.aload_n 0, 1) := by decide +kernel
theorem dX7_part_25 : decode cX7_part 25 = .ok (.getfield 114, 3) := by decide +kernel
theorem dX7_part_28 : decode cX7_part 28 = .ok (.ifCond .eq 5, 3) := by decide +kernel
theorem dX7_part_31 : decode cX7_part 31 = .ok (.lconst 0, 1) := by decide +kernel
theorem dX7_part_32 : decode cX7_part 32 = .ok (.lreturn, 1) := by decide +kernel
theorem dX7_part_33 : decode cX7_part 33 = .ok (.lload_n 1, 1) := by decide +kernel
theorem dX7_part_34 : decode cX7_part 34 = .ok (.ldc2_w 211, 3) := by decide +kernel
theorem dX7_part_37 : decode cX7_part 37 = .ok (.lrem, 1) := by decide +kernel
theorem dX7_part_38 : decode cX7_part 38 = .ok (.lstore 4, 2) := by decide +kernel
theorem dX7_part_40 : decode cX7_part 40 = .ok (.iload_n 3, 1) := by decide +kernel
theorem dX7_part_41 : decode cX7_part 41 = .ok (.ifCond .ne 11, 3) := by decide +kernel
theorem dX7_part_44 : decode cX7_part 44 = .ok (.lload_n 1, 1) := by decide +kernel
theorem dX7_part_45 : decode cX7_part 45 = .ok (.ldc2_w 211, 3) := by decide +kernel
theorem dX7_part_48 : decode cX7_part 48 = .ok (.ldiv, 1) := by decide +kernel
theorem dX7_part_49 : decode cX7_part 49 = .ok (.goto 23, 3) := by decide +kernel
