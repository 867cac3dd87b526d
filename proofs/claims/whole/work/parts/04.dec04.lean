theorem dX7_isIssuer_14 : decode cX7_isIssuer 14 = .ok (.iconst 0, 1) := by decide +kernel
theorem dX7_isIssuer_15 : decode cX7_isIssuer 15 = .ok (.istore_n 2, 1) := by decide +kernel
theorem dX7_isIssuer_16 : decode cX7_isIssuer 16 = .ok (.aload_n 0, 1) := by decide +kernel
theorem dX7_isIssuer_17 : decode cX7_isIssuer 17 = .ok (.iload_n 2, 1) := by decide +kernel
theorem dX7_isIssuer_18 : decode cX7_isIssuer 18 = .ok (.ifCond .eq 7, 3) := by decide +kernel
theorem dX7_isIssuer_21 : decode cX7_isIssuer 21 = .ok (.iconst 0, 1) := by decide +kernel
theorem dX7_isIssuer_22 : decode cX7_isIssuer 22 = .ok (.goto 4, 3) := by decide +kernel
theorem dX7_isIssuer_25 : decode cX7_isIssuer 25 = .ok (.iconst 1, 1) := by decide +kernel
theorem dX7_isIssuer_26 : decode cX7_isIssuer 26 = .ok (.putfield 114, 3) := by decide +kernel
theorem dX7_isIssuer_29 : decode cX7_isIssuer 29 = .ok (.iload_n 2, 1) := by decide +kernel
theorem dX7_isIssuer_30 : decode cX7_isIssuer 30 = .ok (.ireturn, 1) := by decide +kernel
theorem dX7_clock_0 : decode cX7_clock 0 = .ok (.aload_n 0, 1) := by decide +kernel
theorem dX7_clock_1 : decode cX7_clock 1 = .ok (.iload_n 1, 1) := by decide +kernel
theorem dX7_clock_2 : decode cX7_clock 2 = .ok (.invokevirtual 118, 3) := by decide +kernel
theorem dX7_clock_5 : decode cX7_clock 5 = .ok (.ifCond .ne 4, 3) := by decide +kernel
theorem dX7_clock_8 : decode cX7_clock 8 = .ok (.return_, 1) := by decide +kernel
theorem dX7_clock_9 : decode cX7_clock 9 = .ok (.lload_n 2, 1) := by decide +kernel
theorem dX7_clock_10 : decode cX7_clock 10 = .ok (.lconst 0, 1) := by decide +kernel
theorem dX7_clock_11 : decode cX7_clock 11 = .ok (.lcmp, 1) := by decide +kernel
theorem dX7_clock_12 : decode cX7_clock 12 = .ok (.ifCond .lt 11, 3) := by decide +kernel
theorem dX7_clock_15 : decode cX7_clock 15 = .ok (.lload_n 2, 1) := by decide +kernel
theorem dX7_clock_16 : decode cX7_clock 16 = .ok (.ldc2_w 122, 3) := by decide +kernel
theorem dX7_clock_19 : decode cX7_clock 19 = .ok (.lcmp, 1) := by decide +kernel
theorem dX7_clock_20 : decode cX7_clock 20 = .ok (.ifCond .le 11, 3) := by decide +kernel
theorem dX7_clock_23 : decode cX7_clock 23 = .ok (.aload_n 0, 1) := by decide +kernel
theorem dX7_clock_24 : decode cX7_clock 24 = .ok (.iconst 2, 1) := by decide +kernel
theorem dX7_clock_25 : decode cX7_clock 25 = .ok (.putfield 114, 3) := by decide +kernel
theorem dX7_clock_28 : decode cX7_clock 28 = .ok (.goto 10, 3) := by decide +kernel
theorem dX7_clock_31 : decode cX7_clock 31 = .ok (.aload_n 0, 1) := by decide +kernel
theorem dX7_clock_32 : decode cX7_clock 32 = .ok (.getfield 60, 3) := by decide +kernel
theorem dX7_clock_35 : decode cX7_clock 35 = .ok (.iload_n 1, 1) := by decide +kernel
theorem dX7_clock_36 : decode cX7_clock 36 = .ok (.lload_n 2, 1) := by decide +kernel
theorem dX7_clock_37 : decode cX7_clock 37 = .ok (.lastore, 1) := by decide +kernel
theorem dX7_clock_38 : decode cX7_clock 38 = .ok (.return_, 1) := by decide +kernel
theorem dX7_send_0 : decode cX7_send 0 = .ok (.aload_n 0, 1) := by decide +kernel
theorem dX7_send_1 : decode cX7_send 1 = .ok (.getfield 7, 3) := by decide +kernel
theorem dX7_send_4 : decode cX7_send 4 = .ok (.aload_n 0, 1) := by decide +kernel
theorem dX7_send_5 : decode cX7_send 5 = .ok (.getfield 124, 3) := by decide +kernel
theorem dX7_send_8 : decode cX7_send 8 = .ok (.iload_n 1, 1) := by decide +kernel
theorem dX7_send_9 : decode cX7_send 9 = .ok (.iastore, 1) := by decide +kernel
theorem dX7_send_10 : decode cX7_send 10 = .ok (.aload_n 0, 1) := by decide +kernel
theorem dX7_send_11 : decode cX7_send 11 = .ok (.getfield 13, 3) := by decide +kernel
theorem dX7_send_14 : decode cX7_send 14 = .ok (.aload_n 0, 1) := by decide +kernel
theorem dX7_send_15 : decode cX7_send 15 = .ok (.getfield 124, 3) := by decide +kernel
theorem dX7_send_18 : decode cX7_send 18 = .ok (.iload_n 2, 1) := by decide +kernel
theorem dX7_send_19 : decode cX7_send 19 = .ok (.iastore, 1) := by decide +kernel
theorem dX7_send_20 : decode cX7_send 20 = .ok (.aload_n 0, 1) := by decide +kernel
theorem dX7_send_21 : decode cX7_send 21 = .ok (.getfield 16, 3) := by decide +kernel
theorem dX7_send_24 : decode cX7_send 24 = .ok (.aload_n 0, 1) := by decide +kernel
theorem dX7_send_25 : decode cX7_send 25 = .ok (.getfield 124, 3) := by decide +kernel
theorem dX7_send_28 : decode cX7_send 28 = .ok (.iload_n 3, 1) := by decide +kernel
theorem dX7_send_29 : decode cX7_send 29 = .ok (.iastore, 1) := by decide +kernel
theorem dX7_send_30 : decode cX7_send 30 = .ok (.aload_n 0, 1) := by decide +kernel
theorem dX7_send_31 : decode cX7_send 31 = .ok (.getfield 19, 3) := by decide +kernel
theorem dX7_send_34 : decode cX7_send 34 = .ok (.aload_n 0, 1) := by decide +kernel
theorem dX7_send_35 : decode cX7_send 35 = .ok (.getfield 124, 3) := by decide +kernel
theorem dX7_send_38 : decode cX7_send 38 = .ok (.iload 4, 2) := by decide +kernel
theorem dX7_send_40 : decode cX7_send 40 = .ok (.iastore, 1) := by decide +kernel
theorem dX7_send_41 : decode cX7_send 41 = .ok (.aload_n 0, 1) := by decide +kernel
theorem dX7_send_42 : decode cX7_send 42 = .ok (.getfield 32, 3) := by decide +kernel
theorem dX7_send_45 : decode cX7_send 45 = .ok (.aload_n 0, 1) := by decide +kernel
theorem dX7_send_46 : decode cX7_send 46 = .ok (.getfield 124, 3) := by decide +kernel
theorem dX7_send_49 : decode cX7_send 49 = .ok (.iload 5, 2) := by decide +kernel
theorem dX7_send_51 : decode cX7_send 51 = .ok (.iastore, 1) := by decide +kernel
theorem dX7_send_52 : decode cX7_send 52 = .ok (.aload_n 0, 1) := by decide +kernel
theorem dX7_send_53 : decode cX7_send 53 = .ok (.dup, 1) := by decide +kernel
theorem dX7_send_54 : decode cX7_send 54 = .ok (.getfield 124, 3) := by decide +kernel
theorem dX7_send_57 : decode cX7_send 57 = .ok (.iconst 1, 1) := by decide +kernel
theorem dX7_send_58 : decode cX7_send 58 = .ok (.iadd, 1) := by decide +kernel
theorem dX7_send_59 : decode cX7_send 59 = .ok (.putfield 124, 3) := by decide +kernel
theorem dX7_send_62 : decode cX7_send 62 = .ok (.return_, 1) := by decide +kernel
theorem dX7_copy_0 : decode cX7_copy 0 = .ok (.aload_n 0, 1) := by decide +kernel
theorem dX7_copy_1 : decode cX7_copy 1 = .ok (.getfield 7, 3) := by decide +kernel
theorem dX7_copy_4 : decode cX7_copy 4 = .ok (.iload_n 2, 1) := by decide +kernel
theorem dX7_copy_5 : decode cX7_copy 5 = .ok (.aload_n 0, 1) := by decide +kernel
theorem dX7_copy_6 : decode cX7_copy 6 = .ok (.getfield 7, 3) := by decide +kernel
theorem dX7_copy_9 : decode cX7_copy 9 = .ok (.iload_n 1, 1) := by decide +kernel
theorem dX7_copy_10 : decode cX7_copy 10 = .ok (.iaload, 1) := by decide +kernel
theorem dX7_copy_11 : decode cX7_copy 11 = .ok (.iastore, 1) := by decide +kernel
theorem dX7_copy_12 : decode cX7_copy 12 = .ok (.aload_n 0, 1) := by decide +kernel
theorem dX7_copy_13 : decode cX7_copy 13 = .ok (.getfield 13, 3) := by decide +kernel
theorem dX7_copy_16 : decode cX7_copy 16 = .ok (.iload_n 2, 1) := by decide +kernel
theorem dX7_copy_17 : decode cX7_copy 17 = .ok (.aload_n 0, 1) := by decide +kernel
theorem dX7_copy_18 : decode cX7_copy 18 = .ok (.getfield 13, 3) := by decide +kernel
theorem dX7_copy_21 : decode cX7_copy 21 = .ok (.iload_n 1, 1) := by decide +kernel
theorem dX7_copy_22 : decode cX7_copy 22 = .ok (.iaload, 1) := by decide +kernel
theorem dX7_copy_23 : decode cX7_copy 23 = .ok (.iastore, 1) := by decide +kernel
theorem dX7_copy_24 : decode cX7_copy 24 = .ok (.aload_n 0, 1) := by decide +kernel
theorem dX7_copy_25 : decode cX7_copy 25 = .ok (.getfield 16, 3) := by decide +kernel
theorem dX7_copy_28 : decode cX7_copy 28 = .ok (.iload_n 2, 1) := by decide +kernel
theorem dX7_copy_29 : decode cX7_copy 29 = .ok (.aload_n 0, 1) := by decide +kernel
theorem dX7_copy_30 : decode cX7_copy 30 = .ok (.getfield 16, 3) := by decide +kernel
theorem dX7_copy_33 : decode cX7_copy 33 = .ok (.iload_n 1, 1) := by decide +kernel
theorem dX7_copy_34 : decode cX7_copy 34 = .ok (.iaload, 1) := by decide +kernel
theorem dX7_copy_35 : decode cX7_copy 35 = .ok (.iastore, 1) := by decide +kernel
theorem dX7_copy_36 : decode cX7_copy 36 = .ok (.aload_n 0, 1) := by decide +kernel
theorem dX7_copy_37 : decode cX7_copy 37 = .ok (.getfield 19, 3) := by decide +kernel
theorem dX7_copy_40 : decode cX7_copy 40 = .ok (.iload_n 2, 1) := by decide +kernel
theorem dX7_copy_41 : decode cX7_copy 41 = .ok (.aload_n 0, 1) := by decide +kernel
theorem dX7_copy_42 : decode cX7_copy 42 = .ok (.getfield 19, 3) := by decide +kernel
theorem dX7_copy_45 : decode cX7_copy 45 = .ok (.iload_n 1, 1) := by decide +kernel
theorem dX7_copy_46 : decode cX7_copy 46 = .ok (.iaload, 1) := by decide +kernel
theorem dX7_copy_47 : decode cX7_copy 47 = .ok (.iastore, 1) := by decide +kernel
theorem dX7_copy_48 : decode cX7_copy 48 = .ok (.aload_n 0, 1) := by decide +kernel
theorem dX7_copy_49 : decode cX7_copy 49 = .ok (.getfield 22, 3) := by decide +kernel
theorem dX7_copy_52 : decode cX7_copy 52 = .ok (.iload_n 2, 1) := by decide +kernel
theorem dX7_copy_53 : decode cX7_copy 53 = .ok (.aload_n 0, 1) := by decide +kernel
theorem dX7_copy_54 : decode cX7_copy 54 = .ok (.getfield 22, 3) := by decide +kernel
theorem dX7_copy_57 : decode cX7_copy 57 = .ok (.iload_n 1, 1) := by decide +kernel
theorem dX7_copy_58 : decode cX7_copy 58 = .ok (.iaload, 1) := by decide +kernel
theorem dX7_copy_59 : decode cX7_copy 59 = .ok (.iastore, 1) := by decide +kernel
theorem dX7_copy_60 : decode cX7_copy 60 = .ok (.aload_n 0, 1) := by decide +kernel
theorem dX7_copy_61 : decode cX7_copy 61 = .ok (.getfield 25, 3) := by decide +kernel
theorem dX7_copy_64 : decode cX7_copy 64 = .ok (.iload_n 2, 1) := by decide +kernel
theorem dX7_copy_65 : decode cX7_copy 65 = .ok (.aload_n 0, 1) := by decide +kernel
theorem dX7_copy_66 : decode cX7_copy 66 = .ok (.getfield 25, 3) := by decide +kernel
theorem dX7_copy_69 : decode cX7_copy 69 = .ok (.iload_n 1, 1) := by decide +kernel
theorem dX7_copy_70 : decode cX7_copy 70 = .ok (.iaload, 1) := by decide +kernel
theorem dX7_copy_71 : decode cX7_copy 71 = .ok (.iastore, 1) := by decide +kernel
theorem dX7_copy_72 : decode cX7_copy 72 = .ok (.aload_n 0, 1) := by decide +kernel
theorem dX7_copy_73 : decode cX7_copy 73 = .ok (.getfield 28, 3) := by decide +kernel
theorem dX7_copy_76 : decode cX7_copy 76 = .ok (.iload_n 2, 1) := by decide +kernel
theorem dX7_copy_77 : decode cX7_copy 77 = .ok (.aload_n 0, 1) := by decide +kernel
theorem dX7_copy_78 : decode cX7_copy 78 = .ok (.getfield 28, 3) := by decide +kernel
theorem dX7_copy_81 : decode cX7_copy 81 = .ok (.iload_n 1, 1) := by decide +kernel
theorem dX7_copy_82 : decode cX7_copy 82 = .ok (.laload, 1) := by decide +kernel
theorem dX7_copy_83 : decode cX7_copy 83 = .ok (.lastore, 1) := by decide +kernel
theorem dX7_copy_84 : decode cX7_copy 84 = .ok (.aload_n 0, 1) := by decide +kernel
theorem dX7_copy_85 : decode cX7_copy 85 = .ok (.getfield 32, 3) := by decide +kernel
theorem dX7_copy_88 : decode cX7_copy 88 = .ok (.iload_n 2, 1) := by decide +kernel
theorem dX7_copy_89 : decode cX7_copy 89 = .ok (.aload_n 0, 1) := by decide +kernel
theorem dX7_copy_90 : decode cX7_copy 90 = .ok (.getfield 32, 3) := by decide +kernel
theorem dX7_copy_93 : decode cX7_copy 93 = .ok (.iload_n 1, 1) := by decide +kernel
theorem dX7_copy_94 : decode cX7_copy 94 = .ok (.iaload, 1) := by decide +kernel
theorem dX7_copy_95 : decode cX7_copy 95 = .ok (.iastore, 1) := by decide +kernel
theorem dX7_copy_96 : decode cX7_copy 96 = .ok (.return_, 1) := by decide +kernel
theorem dX7_remove_0 : decode cX7_remove 0 = .ok (.aload_n 0, 1) := by decide +kernel
theorem dX7_remove_1 : decode cX7_remove 1 = .ok (.dup, 1) := by decide +kernel
theorem dX7_remove_2 : decode cX7_remove 2 = .ok (.getfield 124, 3) := by decide +kernel
theorem dX7_remove_5 : decode cX7_remove 5 = .ok (.iconst 1, 1) := by decide +kernel
theorem dX7_remove_6 : decode cX7_remove 6 = .ok (.isub, 1) := by decide +kernel
theorem dX7_remove_7 : decode cX7_remove 7 = .ok (.putfield 124, 3) := by decide +kernel
theorem dX7_remove_10 : decode cX7_remove 10 = .ok (.iload_n 1, 1) := by decide +kernel
theorem dX7_remove_11 : decode cX7_remove 11 = .ok (.istore_n 2, 1) := by decide +kernel
theorem dX7_remove_12 : decode cX7_remove 12 = .ok (.iload_n 2, 1) := by decide +kernel
theorem dX7_remove_13 : decode cX7_remove 13 = .ok (.aload_n 0, 1) := by decide +kernel
theorem dX7_remove_14 : decode cX7_remove 14 = .ok (.getfield 124, 3) := by decide +kernel
theorem dX7_remove_17 : decode cX7_remove 17 = .ok (.if_icmp .ge 17, 3) := by decide +kernel
theorem dX7_remove_20 : decode cX7_remove 20 = .ok (.aload_n 0, 1) := by decide +kernel
theorem dX7_remove_21 : decode cX7_remove 21 = .ok (.iload_n 2, 1) := by decide +kernel
theorem dX7_remove_22 : decode cX7_remove 22 = .ok (.iconst 1, 1) := by decide +kernel
theorem dX7_remove_23 : decode cX7_remove 23 = .ok (.iadd, 1) := by decide +kernel
theorem dX7_remove_24 : decode cX7_remove 24 = .ok (.iload_n 2, 1) := by decide +kernel
theorem dX7_remove_25 : decode cX7_remove 25 = .ok (.invokevirtual 127, 3) := by decide +kernel
theorem dX7_remove_28 : decode cX7_remove 28 = .ok (.iinc 2 1, 3) := by decide +kernel
theorem dX7_remove_31 : decode cX7_remove 31 = .ok (.goto (-19), 3) := by decide +kernel
theorem dX7_remove_34 : decode cX7_remove 34 = .ok (.return_, 1) := by decide +kernel
theorem dX7_isLetter_0 : decode cX7_isLetter 0 = .ok (.iload_n 1, 1) := by decide +kernel
theorem dX7_isLetter_1 : decode cX7_isLetter 1 = .ok (.ifCond .lt 15, 3) := by decide +kernel
theorem dX7_isLetter_4 : decode cX7_isLetter 4 = .ok (.iload_n 1, 1) := by decide +kernel
theorem dX7_isLetter_5 : decode cX7_isLetter 5 = .ok (.aload_n 0, 1) := by decide +kernel
theorem dX7_isLetter_6 : decode cX7_isLetter 6 = .ok (.getfield 124, 3) := by decide +kernel
theorem dX7_isLetter_9 : decode cX7_isLetter 9 = .ok (.if_icmp .ge 7, 3) := by decide +kernel
theorem dX7_isLetter_12 : decode cX7_isLetter 12 = .ok (.iconst 1, 1) := by decide +kernel
theorem dX7_isLetter_13 : decode cX7_isLetter 13 = .ok (.goto 4, 3) := by decide +kernel
theorem dX7_isLetter_16 : decode cX7_isLetter 16 = .ok (.iconst 0, 1) := by decide +kernel
theorem dX7_isLetter_17 : decode cX7_isLetter 17 = .ok (.istore_n 2, 1) := by decide +kernel
theorem dX7_isLetter_18 : decode cX7_isLetter 18 = .ok (.aload_n 0, 1) := by decide +kernel
theorem dX7_isLetter_19 : decode cX7_isLetter 19 = .ok (.iload_n 2, 1) := by decide +kernel
theorem dX7_isLetter_20 : decode cX7_isLetter 20 = .ok (.ifCond .eq 7, 3) := by decide +kernel
theorem dX7_isLetter_23 : decode cX7_isLetter 23 = .ok (.iconst 0, 1) := by decide +kernel
theorem dX7_isLetter_24 : decode cX7_isLetter 24 = .ok (.goto 4, 3) := by decide +kernel
theorem dX7_isLetter_27 : decode cX7_isLetter 27 = .ok (.iconst 1, 1) := by decide +kernel
theorem dX7_isLetter_28 : decode cX7_isLetter 28 = .ok (.putfield 114, 3) := by decide +kernel
theorem dX7_isLetter_31 : decode cX7_isLetter 31 = .ok (.iload_n 2, 1) := by decide +kernel
theorem dX7_isLetter_32 : decode cX7_isLetter 32 = .ok (.ireturn, 1) := by decide +kernel
theorem dX7_letters_0 : decode cX7_letters 0 = .ok (.aload_n 0, 1) := by decide +kernel
theorem dX7_letters_1 : decode cX7_letters 1 = .ok (.iconst 0, 1) := by decide +kernel
theorem dX7_letters_2 : decode cX7_letters 2 = .ok (.putfield 114, 3) := by decide +kernel
theorem dX7_letters_5 : decode cX7_letters 5 = .ok (.aload_n 0, 1) := by decide +kernel
theorem dX7_letters_6 : decode cX7_letters 6 = .ok (.getfield 124, 3) := by decide +kernel
theorem dX7_letters_9 : decode cX7_letters 9 = .ok (.ireturn, 1) := by decide +kernel
theorem dX7_lose_0 : decode cX7_lose 0 = .ok (.aload_n 0, 1) := by decide +kernel
theorem dX7_lose_1 : decode cX7_lose 1 = .ok (.iload_n 1, 1) := by decide +kernel
theorem dX7_lose_2 : decode cX7_lose 2 = .ok (.invokevirtual 131, 3) := by decide +kernel
theorem dX7_lose_5 : decode cX7_lose 5 = .ok (.ifCond .eq 8, 3) := by decide +kernel
theorem dX7_lose_8 : decode cX7_lose 8 = .ok (.aload_n 0, 1) := by decide +kernel
theorem dX7_lose_9 : decode cX7_lose 9 = .ok (.iload_n 1, 1) := by decide +kernel
theorem dX7_lose_10 : decode cX7_lose 10 = .ok (.invokevirtual 134, 3) := by decide +kernel
theorem dX7_lose_13 : decode cX7_lose 13 = .ok (.return_, 1) := by decide +kernel
theorem dX7_twin_0 : decode cX7_twin 0 = .ok (.aload_n 0, 1) := by decide +kernel
theorem dX7_twin_1 : decode cX7_twin 1 = .ok (.iload_n 1, 1) := by decide +kernel
theorem dX7_twin_2 : decode cX7_twin 2 = .ok (.invokevirtual 131, 3) := by decide +kernel
theorem dX7_twin_5 : decode cX7_twin 5 = .ok (.ifCond .ne 4, 3) := by decide +kernel
theorem dX7_twin_8 : decode cX7_twin 8 = .ok (.return_, 1) := by decide +kernel
theorem dX7_twin_9 : decode cX7_twin 9 = .ok (.aload_n 0, 1) := by decide +kernel
theorem dX7_twin_10 : decode cX7_twin 10 = .ok (.getfield 124, 3) := by decide +kernel
theorem dX7_twin_13 : decode cX7_twin 13 = .ok (.bipush 90, 2) := by decide +kernel
theorem dX7_twin_15 : decode cX7_twin 15 = .ok (.if_icmp .ne 9, 3) := by decide +kernel
theorem dX7_twin_18 : decode cX7_twin 18 = .ok (.aload_n 0, 1) := by decide +kernel
theorem dX7_twin_19 : decode cX7_twin 19 = .ok (.iconst 2, 1) := by decide +kernel
theorem dX7_twin_20 : decode cX7_twin 20 = .ok (.putfield 114, 3) := by decide +kernel
theorem dX7_twin_23 : decode cX7_twin 23 = .ok (.return_, 1) := by decide +kernel
theorem dX7_twin_24 : decode cX7_twin 24 = .ok (.aload_n 0, 1) := by decide +kernel
theorem dX7_twin_25 : decode cX7_twin 25 = .ok (.iload_n 1, 1) := by decide +kernel
theorem dX7_twin_26 : decode cX7_twin 26 = .ok (.aload_n 0, 1) := by decide +kernel
theorem dX7_twin_27 : decode cX7_twin 27 = .ok (.getfield 124, 3) := by decide +kernel
theorem dX7_twin_30 : decode cX7_twin 30 = .ok (.invokevirtual 127, 3) := by decide +kernel
theorem dX7_twin_33 : decode cX7_twin 33 = .ok (.aload_n 0, 1) := by decide +kernel
theorem dX7_twin_34 : decode cX7_twin 34 = .ok (.dup, 1) := by decide +kernel
theorem dX7_twin_35 : decode cX7_twin 35 = .ok (.getfield 124, 3) := by decide +kernel
theorem dX7_twin_38 : decode cX7_twin 38 = .ok (.iconst 1, 1) := by decide +kernel
theorem dX7_twin_39 : decode cX7_twin 39 = .ok (.iadd, 1) := by decide +kernel
theorem dX7_twin_40 : decode cX7_twin 40 = .ok (.putfield 124, 3) := by decide +kernel
theorem dX7_twin_43 : decode cX7_twin 43 = .ok (.return_, 1) := by decide +kernel
theorem dX7_letter_0 : decode cX7_letter 0 = .ok (.aload_n 0, 1) := by decide +kernel
theorem dX7_letter_1 : decode cX7_letter 1 = .ok (.iload_n 1, 1) := by decide +kernel
theorem dX7_letter_2 : decode cX7_letter 2 = .ok (.invokevirtual 131, 3) := by decide +kernel
theorem dX7_letter_5 : decode cX7_letter 5 = .ok (.ifCond .ne 5, 3) := by decide +kernel
theorem dX7_letter_8 : decode cX7_letter 8 = .ok (.iconst 0, 1) := by decide +kernel
theorem dX7_letter_9 : decode cX7_letter 9 = .ok (.ireturn, 1) := by decide +kernel
theorem dX7_letter_10 : decode cX7_letter 10 = .ok (.aload_n 0, 1) := by decide +kernel
theorem dX7_letter_11 : decode cX7_letter 11 = .ok (.iload_n 2, 1) := by decide +kernel
theorem dX7_letter_12 : decode cX7_letter 12 = .ok (.ifCond .lt 8, 3) := by decide +kernel
theorem dX7_letter_15 : decode cX7_letter 15 = .ok (.iload_n 2, 1) := by decide +kernel
theorem dX7_letter_16 : decode cX7_letter 16 = .ok (.iconst 5, 1) := by decide +kernel
theorem dX7_letter_17 : decode cX7_letter 17 = .ok (.if_icmp .le 7, 3) := by decide +kernel
theorem dX7_letter_20 : decode cX7_letter 20 = .ok (.iconst 1, 1) := by decide +kernel
theorem dX7_letter_21 : decode cX7_letter 21 = .ok (.goto 4, 3) := by decide +kernel
theorem dX7_letter_24 : decode cX7_letter 24 = .ok (.iconst 0, 1) := by decide +kernel
theorem dX7_letter_25 : decode cX7_letter 25 = .ok (.putfield 114, 3) := by decide +kernel
theorem dX7_letter_28 : decode cX7_letter 28 = .ok (.aload_n 0, 1) := by decide +kernel
theorem dX7_letter_29 : decode cX7_letter 29 = .ok (.getfield 114, 3) := by decide +kernel
theorem dX7_letter_32 : decode cX7_letter 32 = .ok (.ifCond .eq 5, 3) := by decide +kernel
theorem dX7_letter_35 : decode cX7_letter 35 = .ok (.iconst 0, 1) := by decide +kernel
theorem dX7_letter_36 : decode cX7_letter 36 = .ok (.ireturn, 1) := by decide +kernel
theorem dX7_letter_37 : decode cX7_letter 37 = .ok (.iload_n 2, 1) := by decide +kernel
theorem dX7_letter_38 : decode cX7_letter 38 = .ok (.ifCond .ne 10, 3) := by decide +kernel
theorem dX7_letter_41 : decode cX7_letter 41 = .ok (.aload_n 0, 1) := by decide +kernel
theorem dX7_letter_42 : decode cX7_letter 42 = .ok (.getfield 7, 3) := by decide +kernel
theorem dX7_letter_45 : decode cX7_letter 45 = .ok (.iload_n 1, 1) := by decide +kernel
theorem dX7_letter_46 : decode cX7_letter 46 = .ok (.iaload, 1) := by decide +kernel
theorem dX7_letter_47 : decode cX7_letter 47 = .ok (.ireturn, 1) := by decide +kernel
theorem dX7_letter_48 : decode cX7_letter 48 = .ok (.iload_n 2, 1) := by decide +kernel
theorem dX7_letter_49 : decode cX7_letter 49 = .ok (.iconst 1, 1) := by decide +kernel
theorem dX7_letter_50 : decode cX7_letter 50 = .ok (.if_icmp .ne 10, 3) := by decide +kernel
theorem dX7_letter_53 : decode cX7_letter 53 = .ok (.aload_n 0, 1) := by decide +kernel
theorem dX7_letter_54 : decode cX7_letter 54 = .ok (.getfield 13, 3) := by decide +kernel
theorem dX7_letter_57 : decode cX7_letter 57 = .ok (.iload_n 1, 1) := by decide +kernel
theorem dX7_letter_58 : decode cX7_letter 58 = .ok (.iaload, 1) := by decide +kernel
theorem dX7_letter_59 : decode cX7_letter 59 = .ok (.ireturn, 1) := by decide +kernel
theorem dX7_letter_60 : decode cX7_letter 60 = .ok (.iload_n 2, 1) := by decide +kernel
theorem dX7_letter_61 : decode cX7_letter 61 = .ok (.iconst 2, 1) := by decide +kernel
theorem dX7_letter_62 : decode cX7_letter 62 = .ok (.if_icmp .ne 10, 3) := by decide +kernel
theorem dX7_letter_65 : decode cX7_letter 65 = .ok (.aload_n 0, 1) := by decide +kernel
theorem dX7_letter_66 : decode cX7_letter 66 = .ok (.getfield 16, 3) := by decide +kernel
theorem dX7_letter_69 : decode cX7_letter 69 = .ok (.iload_n 1, 1) := by decide +kernel
theorem dX7_letter_70 : decode cX7_letter 70 = .ok (.iaload, 1) := by decide +kernel
theorem dX7_letter_71 : decode cX7_letter 71 = .ok (.ireturn, 1) := by decide +kernel
theorem dX7_letter_72 : decode cX7_letter 72 = .ok (.iload_n 2, 1) := by decide +kernel
theorem dX7_letter_73 : decode cX7_letter 73 = .ok (.iconst 3, 1) := by decide +kernel
theorem dX7_letter_74 : decode cX7_letter 74 = .ok (.if_icmp .ne 10, 3) := by decide +kernel
theorem dX7_letter_77 : decode cX7_letter 77 = .ok (.aload_n 0, 1) := by decide +kernel
theorem dX7_letter_78 : decode cX7_letter 78 = .ok (.getfield 19, 3) := by decide +kernel
theorem dX7_letter_81 : decode cX7_letter 81 = .ok (.iload_n 1, 1) := by decide +kernel
theorem dX7_letter_82 : decode cX7_letter 82 = .ok (.iaload, 1) := by decide +kernel
theorem dX7_letter_83 : decode cX7_letter 83 = .ok (.ireturn, 1) := by decide +kernel
theorem dX7_letter_84 : decode cX7_letter 84 = .ok (.iload_n 2, 1) := by decide +kernel
theorem dX7_letter_85 : decode cX7_letter 85 = .ok (.iconst 4, 1) := by decide +kernel
theorem dX7_letter_86 : decode cX7_letter 86 = .ok (.if_icmp .ne 24, 3) := by decide +kernel
theorem dX7_letter_89 : decode cX7_letter 89 = .ok (.aload_n 0, 1) := by decide +kernel
theorem dX7_letter_90 : decode cX7_letter 90 = .ok (.getfield 7, 3) := by decide +kernel
theorem dX7_letter_93 : decode cX7_letter 93 = .ok (.iload_n 1, 1) := by decide +kernel
theorem dX7_letter_94 : decode cX7_letter 94 = .ok (.iaload, 1) := by decide +kernel
theorem dX7_letter_95 : decode cX7_letter 95 = .ok (.iconst 2, 1) := by decide +kernel
theorem dX7_letter_96 : decode cX7_letter 96 = .ok (.if_icmp .ne 12, 3) := by decide +kernel
theorem dX7_letter_99 : decode cX7_letter 99 = .ok (.aload_n 0, 1) := by decide +kernel
theorem dX7_letter_100 : decode cX7_letter 100 = .ok (.getfield 22, 3) := by decide +kernel
theorem dX7_letter_103 : decode cX7_letter 103 = .ok (.iload_n 1, 1) := by decide +kernel
theorem dX7_letter_104 : decode cX7_letter 104 = .ok (.iaload, 1) := by decide +kernel
theorem dX7_letter_105 : decode cX7_letter 105 = .ok (.goto 4, 3) := by decide +kernel
theorem dX7_letter_108 : decode cX7_letter 108 = .ok (.iconst (-1), 1) := by decide +kernel
theorem dX7_letter_109 : decode cX7_letter 109 = .ok (.ireturn, 1) := by decide +kernel
theorem dX7_letter_110 : decode cX7_letter 110 = .ok (.aload_n 0, 1) := by decide +kernel
theorem dX7_letter_111 : decode cX7_letter 111 = .ok (.getfield 7, 3) := by decide +kernel
theorem dX7_letter_114 : decode cX7_letter 114 = .ok (.iload_n 1, 1) := by decide +kernel
theorem dX7_letter_115 : decode cX7_letter 115 = .ok (.iaload, 1) := by decide +kernel
theorem dX7_letter_116 : decode cX7_letter 116 = .ok (.iconst 4, 1) := by decide +kernel
theorem dX7_letter_117 : decode cX7_letter 117 = .ok (.if_icmp .ne 12, 3) := by decide +kernel
theorem dX7_letter_120 : decode cX7_letter 120 = .ok (.aload_n 0, 1) := by decide +kernel
theorem dX7_letter_121 : decode cX7_letter 121 = .ok (.getfield 32, 3) := by decide +kernel
theorem dX7_letter_124 : decode cX7_letter 124 = .ok (.iload_n 1, 1) := by decide +kernel
theorem dX7_letter_125 : decode cX7_letter 125 = .ok (.iaload, 1) := by decide +kernel
theorem dX7_letter_126 : decode cX7_letter 126 = .ok (.goto 4, 3) := by decide +kernel
theorem dX7_letter_129 : decode cX7_letter 129 = .ok (.iconst (-1), 1) := by decide +kernel
theorem dX7_letter_130 : decode cX7_letter 130 = .ok (.ireturn, 1) := by decide +kernel
theorem dX7_attempt_0 : decode cX7_attempt 0 = .ok (.aload_n 0, 1) := by decide +kernel
theorem dX7_attempt_1 : decode cX7_attempt 1 = .ok (.getfield 69, 3) := by decide +kernel
theorem dX7_attempt_4 : decode cX7_attempt 4 = .ok (.iload_n 1, 1) := by decide +kernel
theorem dX7_attempt_5 : decode cX7_attempt 5 = .ok (.iaload, 1) := by decide +kernel
theorem dX7_attempt_6 : decode cX7_attempt 6 = .ok (.iconst 1, 1) := by decide +kernel
theorem dX7_attempt_7 : decode cX7_attempt 7 = .ok (.iadd, 1) := by decide +kernel
theorem dX7_attempt_8 : decode cX7_attempt 8 = .ok (.istore_n 3, 1) := by decide +kernel
theorem dX7_attempt_9 : decode cX7_attempt 9 = .ok (.aload_n 0, 1) := by decide +kernel
theorem dX7_attempt_10 : decode cX7_attempt 10 = .ok (.getfield 69, 3) := by decide +kernel
theorem dX7_attempt_13 : decode cX7_attempt 13 = .ok (.iload_n 1, 1) := by decide +kernel
theorem dX7_attempt_14 : decode cX7_attempt 14 = .ok (.iload_n 3, 1) := by decide +kernel
theorem dX7_attempt_15 : decode cX7_attempt 15 = .ok (.aload_n 0, 1) := by decide +kernel
theorem dX7_attempt_16 : decode cX7_attempt 16 = .ok (.getfield 72, 3) := by decide +kernel
theorem dX7_attempt_19 : decode cX7_attempt 19 = .ok (.iload_n 1, 1) := by decide +kernel
theorem dX7_attempt_20 : decode cX7_attempt 20 = .ok (.iaload, 1) := by decide +kernel
theorem dX7_attempt_21 : decode cX7_attempt 21 = .ok (.if_icmp .le 7, 3) := by decide +kernel
theorem dX7_attempt_24 : decode cX7_attempt 24 = .ok (.iload_n 3, 1) := by decide +kernel
theorem dX7_attempt_25 : decode cX7_attempt 25 = .ok (.goto 11, 3) := by decide +kernel
theorem dX7_attempt_28 : decode cX7_attempt 28 = .ok (.aload_n 0, 1) := by decide +kernel
theorem dX7_attempt_29 : decode cX7_attempt 29 = .ok (.getfield 72, 3) := by decide +kernel
theorem dX7_attempt_32 : decode cX7_attempt 32 = .ok (.iload_n 1, 1) := by decide +kernel
theorem dX7_attempt_33 : decode cX7_attempt 33 = .ok (.iaload, 1) := by decide +kernel
theorem dX7_attempt_34 : decode cX7_attempt 34 = .ok (.iconst 1, 1) := by decide +kernel
theorem dX7_attempt_35 : decode cX7_attempt 35 = .ok (.iadd, 1) := by decide +kernel
theorem dX7_attempt_36 : decode cX7_attempt 36 = .ok (.iastore, 1) := by decide +kernel
theorem dX7_attempt_37 : decode cX7_attempt 37 = .ok (.aload_n 0, 1) := by decide +kernel
theorem dX7_attempt_38 : decode cX7_attempt 38 = .ok (.getfield 63, 3) := by decide +kernel
theorem dX7_attempt_41 : decode cX7_attempt 41 = .ok (.iload_n 1, 1) := by decide +kernel
theorem dX7_attempt_42 : decode cX7_attempt 42 = .ok (.iconst 1, 1) := by decide +kernel
theorem dX7_attempt_43 : decode cX7_attempt 43 = .ok (.iastore, 1) := by decide +kernel
theorem dX7_attempt_44 : decode cX7_attempt 44 = .ok (.aload_n 0, 1) := by decide +kernel
theorem dX7_attempt_45 : decode cX7_attempt 45 = .ok (.getfield 66, 3) := by decide +kernel
theorem dX7_attempt_48 : decode cX7_attempt 48 = .ok (.iload_n 1, 1) := by decide +kernel
theorem dX7_attempt_49 : decode cX7_attempt 49 = .ok (.iload_n 2, 1) := by decide +kernel
theorem dX7_attempt_50 : decode cX7_attempt 50 = .ok (.bastore, 1) := by decide +kernel
theorem dX7_attempt_51 : decode cX7_attempt 51 = .ok (.aload_n 0, 1) := by decide +kernel
theorem dX7_attempt_52 : decode cX7_attempt 52 = .ok (.iload_n 1, 1) := by decide +kernel
theorem dX7_attempt_53 : decode cX7_attempt 53 = .ok (.invokevirtual 138, 3) := by decide +kernel
theorem dX7_attempt_56 : decode cX7_attempt 56 = .ok (.iconst 0, 1) := by decide +kernel
theorem dX7_attempt_57 : decode cX7_attempt 57 = .ok (.istore 4, 2) := by decide +kernel
theorem dX7_attempt_59 : decode cX7_attempt 59 = .ok (.iload 4, 2) := by decide +kernel
theorem dX7_attempt_61 : decode cX7_attempt 61 = .ok (.iconst 5, 1) := by decide +kernel
theorem dX7_attempt_62 : decode cX7_attempt 62 = .ok (.if_icmp .ge 23, 3) := by decide +kernel
theorem dX7_attempt_65 : decode cX7_attempt 65 = .ok (.aload_n 0, 1) := by decide +kernel
theorem dX7_attempt_66 : decode cX7_attempt 66 = .ok (.iconst 0, 1) := by decide +kernel
theorem dX7_attempt_67 : decode cX7_attempt 67 = .ok (.iload_n 1, 1) := by decide +kernel
theorem dX7_attempt_68 : decode cX7_attempt 68 = .ok (.iload 4, 2) := by decide +kernel
theorem dX7_attempt_70 : decode cX7_attempt 70 = .ok (.aload_n 0, 1) := by decide +kernel
theorem dX7_attempt_71 : decode cX7_attempt 71 = .ok (.iload_n 1, 1) := by decide +kernel
theorem dX7_attempt_72 : decode cX7_attempt 72 = .ok (.invokevirtual 141, 3) := by decide +kernel
theorem dX7_attempt_75 : decode cX7_attempt 75 = .ok (.iconst 0, 1) := by decide +kernel
theorem dX7_attempt_76 : decode cX7_attempt 76 = .ok (.invokevirtual 145, 3) := by decide +kernel
theorem dX7_attempt_79 : decode cX7_attempt 79 = .ok (.iinc 4 1, 3) := by decide +kernel
theorem dX7_attempt_82 : decode cX7_attempt 82 = .ok (.goto (-23), 3) := by decide +kernel
theorem dX7_attempt_85 : decode cX7_attempt 85 = .ok (.return_, 1) := by decide +kernel
theorem dX7_ballotOf_0 : decode cX7_ballotOf 0 = .ok (.bipush 8, 2) := by decide +kernel
theorem dX7_ballotOf_2 : decode cX7_ballotOf 2 = .ok (.aload_n 0, 1) := by decide +kernel
theorem dX7_ballotOf_3 : decode cX7_ballotOf 3 = .ok (.getfield 69, 3) := by decide +kernel
theorem dX7_ballotOf_6 : decode cX7_ballotOf 6 = .ok (.iload_n 1, 1) := by decide +kernel
theorem dX7_ballotOf_7 : decode cX7_ballotOf 7 = .ok (.iaload, 1) := by decide +kernel
theorem dX7_ballotOf_8 : decode cX7_ballotOf 8 = .ok (.imul, 1) := by decide +kernel
theorem dX7_ballotOf_9 : decode cX7_ballotOf 9 = .ok (.iload_n 1, 1) := by decide +kernel
theorem dX7_ballotOf_10 : decode cX7_ballotOf 10 = .ok (.iadd, 1) := by decide +kernel
theorem dX7_ballotOf_11 : decode cX7_ballotOf 11 = .ok (.ireturn, 1) := by decide +kernel
theorem dX7_forgetCounts_0 : decode cX7_forgetCounts 0 = .ok (.iconst 0, 1) := by decide +kernel
theorem dX7_forgetCounts_1 : decode cX7_forgetCounts 1 = .ok (.istore_n 2, 1) := by decide +kernel
theorem dX7_forgetCounts_2 : decode cX7_forgetCounts 2 = .ok (.iload_n 2, 1) := by decide +kernel
theorem dX7_forgetCounts_3 : decode cX7_forgetCounts 3 = .ok (.iconst 5, 1) := by decide +kernel
theorem dX7_forgetCounts_4 : decode cX7_forgetCounts 4 = .ok (.if_icmp .ge 20, 3) := by decide +kernel
theorem dX7_forgetCounts_7 : decode cX7_forgetCounts 7 = .ok (.aload_n 0, 1) := by decide +kernel
theorem dX7_forgetCounts_8 : decode cX7_forgetCounts 8 = .ok (.getfield 75, 3) := by decide +kernel
theorem dX7_forgetCounts_11 : decode cX7_forgetCounts 11 = .ok (.iconst 5, 1) := by decide +kernel
theorem dX7_forgetCounts_12 : decode cX7_forgetCounts 12 = .ok (.iload_n 1, 1) := by decide +kernel
theorem dX7_forgetCounts_13 : decode cX7_forgetCounts 13 = .ok (.imul, 1) := by decide +kernel
theorem dX7_forgetCounts_14 : decode cX7_forgetCounts 14 = .ok (.iload_n 2, 1) := by decide +kernel
theorem dX7_forgetCounts_15 : decode cX7_forgetCounts 15 = .ok (.iadd, 1) := by decide +kernel
theorem dX7_forgetCounts_16 : decode cX7_forgetCounts 16 = .ok (.iconst 0, 1) := by decide +kernel
theorem dX7_forgetCounts_17 : decode cX7_forgetCounts 17 = .ok (.bastore, 1) := by decide +kernel
theorem dX7_forgetCounts_18 : decode cX7_forgetCounts 18 = .ok (.iinc 2 1, 3) := by decide +kernel
theorem dX7_forgetCounts_21 : decode cX7_forgetCounts 21 = .ok (.goto (-19), 3) := by decide +kernel
theorem dX7_forgetCounts_24 : decode cX7_forgetCounts 24 = .ok (.return_, 1) := by decide +kernel
theorem dX7_start_0 : decode cX7_start 0 = .ok (.aload_n 0, 1) := by decide +kernel
theorem dX7_start_1 : decode cX7_start 1 = .ok (.iload_n 1, 1) := by decide +kernel
theorem dX7_start_2 : decode cX7_start 2 = .ok (.invokevirtual 118, 3) := by decide +kernel
theorem dX7_start_5 : decode cX7_start 5 = .ok (.ifCond .ne 4, 3) := by decide +kernel
theorem dX7_start_8 : decode cX7_start 8 = .ok (.return_, 1) := by decide +kernel
theorem dX7_start_9 : decode cX7_start 9 = .ok (.aload_n 0, 1) := by decide +kernel
theorem dX7_start_10 : decode cX7_start 10 = .ok (.getfield 90, 3) := by decide +kernel
theorem dX7_start_13 : decode cX7_start 13 = .ok (.iload_n 1, 1) := by decide +kernel
theorem dX7_start_14 : decode cX7_start 14 = .ok (.baload, 1) := by decide +kernel
theorem dX7_start_15 : decode cX7_start 15 = .ok (.ifCond .ne 23, 3) := by decide +kernel
theorem dX7_start_18 : decode cX7_start 18 = .ok (.aload_n 0, 1) := by decide +kernel
theorem dX7_start_19 : decode cX7_start 19 = .ok (.getfield 63, 3) := by decide +kernel
theorem dX7_start_22 : decode cX7_start 22 = .ok (.iload_n 1, 1) := by decide +kernel
theorem dX7_start_23 : decode cX7_start 23 = .ok (.iaload, 1) := by decide +kernel
theorem dX7_start_24 : decode cX7_start 24 = .ok (.ifCond .ne 14, 3) := by decide +kernel
theorem dX7_start_27 : decode cX7_start 27 = .ok (.aload_n 0, 1) := by decide +kernel
theorem dX7_start_28 : decode cX7_start 28 = .ok (.getfield 124, 3) := by decide +kernel
theorem dX7_start_31 : decode cX7_start 31 = .ok (.iconst 5, 1) := by decide +kernel
theorem dX7_start_32 : decode cX7_start 32 = .ok (.iadd, 1) := by decide +kernel
theorem dX7_start_33 : decode cX7_start 33 = .ok (.bipush 90, 2) := by decide +kernel
theorem dX7_start_35 : decode cX7_start 35 = .ok (.if_icmp .le 11, 3) := by decide +kernel
theorem dX7_start_38 : decode cX7_start 38 = .ok (.aload_n 0, 1) := by decide +kernel
theorem dX7_start_39 : decode cX7_start 39 = .ok (.iconst 2, 1) := by decide +kernel
