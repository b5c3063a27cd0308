theorem kd_A_setOf_0 : decode kb_A_setOf 0 = .ok (.iload_n 0, 1) := by decide +kernel
theorem kd_A_setOf_1 : decode kb_A_setOf 1 = .ok (.invokestatic 21, 3) := by decide +kernel
theorem kd_A_setOf_4 : decode kb_A_setOf 4 = .ok (.ifCond .eq 7, 3) := by decide +kernel
theorem kd_A_setOf_7 : decode kb_A_setOf 7 = .ok (.sipush 256, 3) := by decide +kernel
theorem kd_A_setOf_10 : decode kb_A_setOf 10 = .ok (.ireturn, 1) := by decide +kernel
theorem kd_A_setOf_11 : decode kb_A_setOf 11 = .ok (.iload_n 0, 1) := by decide +kernel
theorem kd_A_setOf_12 : decode kb_A_setOf 12 = .ok (.invokestatic 15, 3) := by decide +kernel
theorem kd_A_setOf_15 : decode kb_A_setOf 15 = .ok (.ifCond .eq 10, 3) := by decide +kernel
theorem kd_A_setOf_18 : decode kb_A_setOf 18 = .ok (.iload_n 0, 1) := by decide +kernel
theorem kd_A_setOf_19 : decode kb_A_setOf 19 = .ok (.invokestatic 34, 3) := by decide +kernel
theorem kd_A_setOf_22 : decode kb_A_setOf 22 = .ok (.goto 6, 3) := by decide +kernel
theorem kd_A_setOf_25 : decode kb_A_setOf 25 = .ok (.sipush 4095, 3) := by decide +kernel
theorem kd_A_setOf_28 : decode kb_A_setOf 28 = .ok (.ireturn, 1) := by decide +kernel
theorem kd_A_isEasternDigit_0 : decode kb_A_isEasternDigit 0 = .ok (.iload_n 0, 1) := by decide +kernel
theorem kd_A_isEasternDigit_1 : decode kb_A_isEasternDigit 1 = .ok (.bipush 100, 2) := by decide +kernel
theorem kd_A_isEasternDigit_3 : decode kb_A_isEasternDigit 3 = .ok (.if_icmp .lt 13, 3) := by decide +kernel
theorem kd_A_isEasternDigit_6 : decode kb_A_isEasternDigit 6 = .ok (.iload_n 0, 1) := by decide +kernel
theorem kd_A_isEasternDigit_7 : decode kb_A_isEasternDigit 7 = .ok (.bipush 103, 2) := by decide +kernel
theorem kd_A_isEasternDigit_9 : decode kb_A_isEasternDigit 9 = .ok (.if_icmp .gt 7, 3) := by decide +kernel
theorem kd_A_isEasternDigit_12 : decode kb_A_isEasternDigit 12 = .ok (.iconst 1, 1) := by decide +kernel
theorem kd_A_isEasternDigit_13 : decode kb_A_isEasternDigit 13 = .ok (.goto 4, 3) := by decide +kernel
theorem kd_A_isEasternDigit_16 : decode kb_A_isEasternDigit 16 = .ok (.iconst 0, 1) := by decide +kernel
theorem kd_A_isEasternDigit_17 : decode kb_A_isEasternDigit 17 = .ok (.ireturn, 1) := by decide +kernel
theorem kd_A_isLetter_0 : decode kb_A_isLetter 0 = .ok (.iload_n 0, 1) := by decide +kernel
theorem kd_A_isLetter_1 : decode kb_A_isLetter 1 = .ok (.ifCond .lt 9, 3) := by decide +kernel
theorem kd_A_isLetter_4 : decode kb_A_isLetter 4 = .ok (.iload_n 0, 1) := by decide +kernel
theorem kd_A_isLetter_5 : decode kb_A_isLetter 5 = .ok (.bipush 95, 2) := by decide +kernel
theorem kd_A_isLetter_7 : decode kb_A_isLetter 7 = .ok (.if_icmp .le 10, 3) := by decide +kernel
theorem kd_A_isLetter_10 : decode kb_A_isLetter 10 = .ok (.iload_n 0, 1) := by decide +kernel
theorem kd_A_isLetter_11 : decode kb_A_isLetter 11 = .ok (.invokestatic 9, 3) := by decide +kernel
theorem kd_A_isLetter_14 : decode kb_A_isLetter 14 = .ok (.ifCond .eq 7, 3) := by decide +kernel
theorem kd_A_isLetter_17 : decode kb_A_isLetter 17 = .ok (.iconst 1, 1) := by decide +kernel
theorem kd_A_isLetter_18 : decode kb_A_isLetter 18 = .ok (.goto 4, 3) := by decide +kernel
theorem kd_A_isLetter_21 : decode kb_A_isLetter 21 = .ok (.iconst 0, 1) := by decide +kernel
theorem kd_A_isLetter_22 : decode kb_A_isLetter 22 = .ok (.ireturn, 1) := by decide +kernel
theorem kd_A_isComposed_0 : decode kb_A_isComposed 0 = .ok (.iload_n 0, 1) := by decide +kernel
theorem kd_A_isComposed_1 : decode kb_A_isComposed 1 = .ok (.bipush 124, 2) := by decide +kernel
theorem kd_A_isComposed_3 : decode kb_A_isComposed 3 = .ok (.if_icmp .lt 13, 3) := by decide +kernel
theorem kd_A_isComposed_6 : decode kb_A_isComposed 6 = .ok (.iload_n 0, 1) := by decide +kernel
theorem kd_A_isComposed_7 : decode kb_A_isComposed 7 = .ok (.bipush 127, 2) := by decide +kernel
theorem kd_A_isComposed_9 : decode kb_A_isComposed 9 = .ok (.if_icmp .gt 7, 3) := by decide +kernel
theorem kd_A_isComposed_12 : decode kb_A_isComposed 12 = .ok (.iconst 1, 1) := by decide +kernel
theorem kd_A_isComposed_13 : decode kb_A_isComposed 13 = .ok (.goto 4, 3) := by decide +kernel
theorem kd_A_isComposed_16 : decode kb_A_isComposed 16 = .ok (.iconst 0, 1) := by decide +kernel
theorem kd_A_isComposed_17 : decode kb_A_isComposed 17 = .ok (.ireturn, 1) := by decide +kernel
theorem kd_A_setOfLetter_0 : decode kb_A_setOfLetter 0 = .ok (.iload_n 0, 1) := by decide +kernel
theorem kd_A_setOfLetter_1 : decode kb_A_setOfLetter 1 = .ok (.bipush 15, 2) := by decide +kernel
theorem kd_A_setOfLetter_3 : decode kb_A_setOfLetter 3 = .ok (.if_icmp .le 10, 3) := by decide +kernel
theorem kd_A_setOfLetter_6 : decode kb_A_setOfLetter 6 = .ok (.iload_n 0, 1) := by decide +kernel
theorem kd_A_setOfLetter_7 : decode kb_A_setOfLetter 7 = .ok (.invokestatic 9, 3) := by decide +kernel
theorem kd_A_setOfLetter_10 : decode kb_A_setOfLetter 10 = .ok (.ifCond .eq 5, 3) := by decide +kernel
theorem kd_A_setOfLetter_13 : decode kb_A_setOfLetter 13 = .ok (.iconst 1, 1) := by decide +kernel
theorem kd_A_setOfLetter_14 : decode kb_A_setOfLetter 14 = .ok (.ireturn, 1) := by decide +kernel
theorem kd_A_setOfLetter_15 : decode kb_A_setOfLetter 15 = .ok (.iload_n 0, 1) := by decide +kernel
theorem kd_A_setOfLetter_16 : decode kb_A_setOfLetter 16 = .ok (.bipush 31, 2) := by decide +kernel
theorem kd_A_setOfLetter_18 : decode kb_A_setOfLetter 18 = .ok (.if_icmp .gt 5, 3) := by decide +kernel
theorem kd_A_setOfLetter_21 : decode kb_A_setOfLetter 21 = .ok (.iconst 2, 1) := by decide +kernel
theorem kd_A_setOfLetter_22 : decode kb_A_setOfLetter 22 = .ok (.ireturn, 1) := by decide +kernel
theorem kd_A_setOfLetter_23 : decode kb_A_setOfLetter 23 = .ok (.iload_n 0, 1) := by decide +kernel
theorem kd_A_setOfLetter_24 : decode kb_A_setOfLetter 24 = .ok (.bipush 47, 2) := by decide +kernel
theorem kd_A_setOfLetter_26 : decode kb_A_setOfLetter 26 = .ok (.if_icmp .gt 5, 3) := by decide +kernel
theorem kd_A_setOfLetter_29 : decode kb_A_setOfLetter 29 = .ok (.iconst 4, 1) := by decide +kernel
theorem kd_A_setOfLetter_30 : decode kb_A_setOfLetter 30 = .ok (.ireturn, 1) := by decide +kernel
theorem kd_A_setOfLetter_31 : decode kb_A_setOfLetter 31 = .ok (.iload_n 0, 1) := by decide +kernel
theorem kd_A_setOfLetter_32 : decode kb_A_setOfLetter 32 = .ok (.bipush 63, 2) := by decide +kernel
theorem kd_A_setOfLetter_34 : decode kb_A_setOfLetter 34 = .ok (.if_icmp .gt 7, 3) := by decide +kernel
theorem kd_A_setOfLetter_37 : decode kb_A_setOfLetter 37 = .ok (.sipush 3592, 3) := by decide +kernel
theorem kd_A_setOfLetter_40 : decode kb_A_setOfLetter 40 = .ok (.ireturn, 1) := by decide +kernel
theorem kd_A_setOfLetter_41 : decode kb_A_setOfLetter 41 = .ok (.iload_n 0, 1) := by decide +kernel
theorem kd_A_setOfLetter_42 : decode kb_A_setOfLetter 42 = .ok (.bipush 71, 2) := by decide +kernel
theorem kd_A_setOfLetter_44 : decode kb_A_setOfLetter 44 = .ok (.if_icmp .gt 7, 3) := by decide +kernel
theorem kd_A_setOfLetter_47 : decode kb_A_setOfLetter 47 = .ok (.sipush 1040, 3) := by decide +kernel
theorem kd_A_setOfLetter_50 : decode kb_A_setOfLetter 50 = .ok (.ireturn, 1) := by decide +kernel
theorem kd_A_setOfLetter_51 : decode kb_A_setOfLetter 51 = .ok (.iload_n 0, 1) := by decide +kernel
theorem kd_A_setOfLetter_52 : decode kb_A_setOfLetter 52 = .ok (.bipush 79, 2) := by decide +kernel
theorem kd_A_setOfLetter_54 : decode kb_A_setOfLetter 54 = .ok (.if_icmp .gt 7, 3) := by decide +kernel
theorem kd_A_setOfLetter_57 : decode kb_A_setOfLetter 57 = .ok (.sipush 1056, 3) := by decide +kernel
theorem kd_A_setOfLetter_60 : decode kb_A_setOfLetter 60 = .ok (.ireturn, 1) := by decide +kernel
theorem kd_A_setOfLetter_61 : decode kb_A_setOfLetter 61 = .ok (.iload_n 0, 1) := by decide +kernel
theorem kd_A_setOfLetter_62 : decode kb_A_setOfLetter 62 = .ok (.bipush 87, 2) := by decide +kernel
theorem kd_A_setOfLetter_64 : decode kb_A_setOfLetter 64 = .ok (.if_icmp .gt 7, 3) := by decide +kernel
theorem kd_A_setOfLetter_67 : decode kb_A_setOfLetter 67 = .ok (.sipush 2112, 3) := by decide +kernel
theorem kd_A_setOfLetter_70 : decode kb_A_setOfLetter 70 = .ok (.ireturn, 1) := by decide +kernel
theorem kd_A_setOfLetter_71 : decode kb_A_setOfLetter 71 = .ok (.sipush 640, 3) := by decide +kernel
theorem kd_A_setOfLetter_74 : decode kb_A_setOfLetter 74 = .ok (.ireturn, 1) := by decide +kernel
theorem kd_A_isForbidden_0 : decode kb_A_isForbidden 0 = .ok (.iload_n 0, 1) := by decide +kernel
theorem kd_A_isForbidden_1 : decode kb_A_isForbidden 1 = .ok (.bipush 115, 2) := by decide +kernel
theorem kd_A_isForbidden_3 : decode kb_A_isForbidden 3 = .ok (.if_icmp .lt 13, 3) := by decide +kernel
theorem kd_A_isForbidden_6 : decode kb_A_isForbidden 6 = .ok (.iload_n 0, 1) := by decide +kernel
theorem kd_A_isForbidden_7 : decode kb_A_isForbidden 7 = .ok (.bipush 123, 2) := by decide +kernel
theorem kd_A_isForbidden_9 : decode kb_A_isForbidden 9 = .ok (.if_icmp .gt 7, 3) := by decide +kernel
theorem kd_A_isForbidden_12 : decode kb_A_isForbidden 12 = .ok (.iconst 1, 1) := by decide +kernel
theorem kd_A_isForbidden_13 : decode kb_A_isForbidden 13 = .ok (.goto 4, 3) := by decide +kernel
theorem kd_A_isForbidden_16 : decode kb_A_isForbidden 16 = .ok (.iconst 0, 1) := by decide +kernel
theorem kd_A_isForbidden_17 : decode kb_A_isForbidden 17 = .ok (.ireturn, 1) := by decide +kernel
theorem kd_A_isPlain_0 : decode kb_A_isPlain 0 = .ok (.iload_n 0, 1) := by decide +kernel
theorem kd_A_isPlain_1 : decode kb_A_isPlain 1 = .ok (.ifCond .lt 9, 3) := by decide +kernel
theorem kd_A_isPlain_4 : decode kb_A_isPlain 4 = .ok (.iload_n 0, 1) := by decide +kernel
theorem kd_A_isPlain_5 : decode kb_A_isPlain 5 = .ok (.bipush 15, 2) := by decide +kernel
theorem kd_A_isPlain_7 : decode kb_A_isPlain 7 = .ok (.if_icmp .le 23, 3) := by decide +kernel
theorem kd_A_isPlain_10 : decode kb_A_isPlain 10 = .ok (.iload_n 0, 1) := by decide +kernel
theorem kd_A_isPlain_11 : decode kb_A_isPlain 11 = .ok (.invokestatic 18, 3) := by decide +kernel
theorem kd_A_isPlain_14 : decode kb_A_isPlain 14 = .ok (.ifCond .ne 16, 3) := by decide +kernel
theorem kd_A_isPlain_17 : decode kb_A_isPlain 17 = .ok (.iload_n 0, 1) := by decide +kernel
theorem kd_A_isPlain_18 : decode kb_A_isPlain 18 = .ok (.bipush 112, 2) := by decide +kernel
theorem kd_A_isPlain_20 : decode kb_A_isPlain 20 = .ok (.if_icmp .eq 10, 3) := by decide +kernel
theorem kd_A_isPlain_23 : decode kb_A_isPlain 23 = .ok (.iload_n 0, 1) := by decide +kernel
theorem kd_A_isPlain_24 : decode kb_A_isPlain 24 = .ok (.invokestatic 27, 3) := by decide +kernel
theorem kd_A_isPlain_27 : decode kb_A_isPlain 27 = .ok (.ifCond .eq 7, 3) := by decide +kernel
theorem kd_A_isPlain_30 : decode kb_A_isPlain 30 = .ok (.iconst 1, 1) := by decide +kernel
theorem kd_A_isPlain_31 : decode kb_A_isPlain 31 = .ok (.goto 4, 3) := by decide +kernel
theorem kd_A_isPlain_34 : decode kb_A_isPlain 34 = .ok (.iconst 0, 1) := by decide +kernel
theorem kd_A_isPlain_35 : decode kb_A_isPlain 35 = .ok (.ireturn, 1) := by decide +kernel
theorem kd_A_isWesternDigit_0 : decode kb_A_isWesternDigit 0 = .ok (.iload_n 0, 1) := by decide +kernel
theorem kd_A_isWesternDigit_1 : decode kb_A_isWesternDigit 1 = .ok (.bipush 96, 2) := by decide +kernel
theorem kd_A_isWesternDigit_3 : decode kb_A_isWesternDigit 3 = .ok (.if_icmp .lt 13, 3) := by decide +kernel
theorem kd_A_isWesternDigit_6 : decode kb_A_isWesternDigit 6 = .ok (.iload_n 0, 1) := by decide +kernel
theorem kd_A_isWesternDigit_7 : decode kb_A_isWesternDigit 7 = .ok (.bipush 99, 2) := by decide +kernel
theorem kd_A_isWesternDigit_9 : decode kb_A_isWesternDigit 9 = .ok (.if_icmp .gt 7, 3) := by decide +kernel
theorem kd_A_isWesternDigit_12 : decode kb_A_isWesternDigit 12 = .ok (.iconst 1, 1) := by decide +kernel
theorem kd_A_isWesternDigit_13 : decode kb_A_isWesternDigit 13 = .ok (.goto 4, 3) := by decide +kernel
theorem kd_A_isWesternDigit_16 : decode kb_A_isWesternDigit 16 = .ok (.iconst 0, 1) := by decide +kernel
theorem kd_A_isWesternDigit_17 : decode kb_A_isWesternDigit 17 = .ok (.ireturn, 1) := by decide +kernel
theorem kd_A_isDashOrDot_0 : decode kb_A_isDashOrDot 0 = .ok (.iload_n 0, 1) := by decide +kernel
theorem kd_A_isDashOrDot_1 : decode kb_A_isDashOrDot 1 = .ok (.bipush 113, 2) := by decide +kernel
theorem kd_A_isDashOrDot_3 : decode kb_A_isDashOrDot 3 = .ok (.if_icmp .eq 9, 3) := by decide +kernel
theorem kd_A_isDashOrDot_6 : decode kb_A_isDashOrDot 6 = .ok (.iload_n 0, 1) := by decide +kernel
theorem kd_A_isDashOrDot_7 : decode kb_A_isDashOrDot 7 = .ok (.bipush 114, 2) := by decide +kernel
theorem kd_A_isDashOrDot_9 : decode kb_A_isDashOrDot 9 = .ok (.if_icmp .ne 7, 3) := by decide +kernel
theorem kd_A_isDashOrDot_12 : decode kb_A_isDashOrDot 12 = .ok (.iconst 1, 1) := by decide +kernel
theorem kd_A_isDashOrDot_13 : decode kb_A_isDashOrDot 13 = .ok (.goto 4, 3) := by decide +kernel
theorem kd_A_isDashOrDot_16 : decode kb_A_isDashOrDot 16 = .ok (.iconst 0, 1) := by decide +kernel
theorem kd_A_isDashOrDot_17 : decode kb_A_isDashOrDot 17 = .ok (.ireturn, 1) := by decide +kernel
theorem kd_A_isInvisible_0 : decode kb_A_isInvisible 0 = .ok (.iload_n 0, 1) := by decide +kernel
theorem kd_A_isInvisible_1 : decode kb_A_isInvisible 1 = .ok (.bipush 120, 2) := by decide +kernel
theorem kd_A_isInvisible_3 : decode kb_A_isInvisible 3 = .ok (.if_icmp .lt 13, 3) := by decide +kernel
theorem kd_A_isInvisible_6 : decode kb_A_isInvisible 6 = .ok (.iload_n 0, 1) := by decide +kernel
theorem kd_A_isInvisible_7 : decode kb_A_isInvisible 7 = .ok (.bipush 123, 2) := by decide +kernel
theorem kd_A_isInvisible_9 : decode kb_A_isInvisible 9 = .ok (.if_icmp .gt 7, 3) := by decide +kernel
theorem kd_A_isInvisible_12 : decode kb_A_isInvisible 12 = .ok (.iconst 1, 1) := by decide +kernel
theorem kd_A_isInvisible_13 : decode kb_A_isInvisible 13 = .ok (.goto 4, 3) := by decide +kernel
theorem kd_A_isInvisible_16 : decode kb_A_isInvisible 16 = .ok (.iconst 0, 1) := by decide +kernel
theorem kd_A_isInvisible_17 : decode kb_A_isInvisible 17 = .ok (.ireturn, 1) := by decide +kernel
theorem kd_A_letterOf_0 : decode kb_A_letterOf 0 = .ok (.iconst 4, 1) := by decide +kernel
theorem kd_A_letterOf_1 : decode kb_A_letterOf 1 = .ok (.iload_n 0, 1) := by decide +kernel
theorem kd_A_letterOf_2 : decode kb_A_letterOf 2 = .ok (.bipush 124, 2) := by decide +kernel
theorem kd_A_letterOf_4 : decode kb_A_letterOf 4 = .ok (.isub, 1) := by decide +kernel
theorem kd_A_letterOf_5 : decode kb_A_letterOf 5 = .ok (.imul, 1) := by decide +kernel
theorem kd_A_letterOf_6 : decode kb_A_letterOf 6 = .ok (.ireturn, 1) := by decide +kernel
theorem kd_A_markOf_0 : decode kb_A_markOf 0 = .ok (.bipush 104, 2) := by decide +kernel
theorem kd_A_markOf_2 : decode kb_A_markOf 2 = .ok (.iload_n 0, 1) := by decide +kernel
theorem kd_A_markOf_3 : decode kb_A_markOf 3 = .ok (.iadd, 1) := by decide +kernel
theorem kd_A_markOf_4 : decode kb_A_markOf 4 = .ok (.bipush 124, 2) := by decide +kernel
theorem kd_A_markOf_6 : decode kb_A_markOf 6 = .ok (.isub, 1) := by decide +kernel
theorem kd_A_markOf_7 : decode kb_A_markOf 7 = .ok (.ireturn, 1) := by decide +kernel
theorem kd_A_markClass_0 : decode kb_A_markClass 0 = .ok (.iload_n 0, 1) := by decide +kernel
theorem kd_A_markClass_1 : decode kb_A_markClass 1 = .ok (.bipush 104, 2) := by decide +kernel
theorem kd_A_markClass_3 : decode kb_A_markClass 3 = .ok (.if_icmp .lt 9, 3) := by decide +kernel
theorem kd_A_markClass_6 : decode kb_A_markClass 6 = .ok (.iload_n 0, 1) := by decide +kernel
theorem kd_A_markClass_7 : decode kb_A_markClass 7 = .ok (.bipush 111, 2) := by decide +kernel
theorem kd_A_markClass_9 : decode kb_A_markClass 9 = .ok (.if_icmp .le 5, 3) := by decide +kernel
theorem kd_A_markClass_12 : decode kb_A_markClass 12 = .ok (.iconst 0, 1) := by decide +kernel
theorem kd_A_markClass_13 : decode kb_A_markClass 13 = .ok (.ireturn, 1) := by decide +kernel
theorem kd_A_markClass_14 : decode kb_A_markClass 14 = .ok (.iload_n 0, 1) := by decide +kernel
theorem kd_A_markClass_15 : decode kb_A_markClass 15 = .ok (.bipush 107, 2) := by decide +kernel
theorem kd_A_markClass_17 : decode kb_A_markClass 17 = .ok (.if_icmp .gt 5, 3) := by decide +kernel
theorem kd_A_markClass_20 : decode kb_A_markClass 20 = .ok (.iconst 1, 1) := by decide +kernel
theorem kd_A_markClass_21 : decode kb_A_markClass 21 = .ok (.ireturn, 1) := by decide +kernel
theorem kd_A_markClass_22 : decode kb_A_markClass 22 = .ok (.iload_n 0, 1) := by decide +kernel
theorem kd_A_markClass_23 : decode kb_A_markClass 23 = .ok (.bipush 109, 2) := by decide +kernel
theorem kd_A_markClass_25 : decode kb_A_markClass 25 = .ok (.if_icmp .gt 7, 3) := by decide +kernel
theorem kd_A_markClass_28 : decode kb_A_markClass 28 = .ok (.iconst 2, 1) := by decide +kernel
theorem kd_A_markClass_29 : decode kb_A_markClass 29 = .ok (.goto 4, 3) := by decide +kernel
theorem kd_A_markClass_32 : decode kb_A_markClass 32 = .ok (.iconst 3, 1) := by decide +kernel
theorem kd_A_markClass_33 : decode kb_A_markClass 33 = .ok (.ireturn, 1) := by decide +kernel
theorem kd_A_isMark_0 : decode kb_A_isMark 0 = .ok (.iload_n 0, 1) := by decide +kernel
theorem kd_A_isMark_1 : decode kb_A_isMark 1 = .ok (.bipush 104, 2) := by decide +kernel
theorem kd_A_isMark_3 : decode kb_A_isMark 3 = .ok (.if_icmp .lt 13, 3) := by decide +kernel
theorem kd_A_isMark_6 : decode kb_A_isMark 6 = .ok (.iload_n 0, 1) := by decide +kernel
theorem kd_A_isMark_7 : decode kb_A_isMark 7 = .ok (.bipush 111, 2) := by decide +kernel
theorem kd_A_isMark_9 : decode kb_A_isMark 9 = .ok (.if_icmp .gt 7, 3) := by decide +kernel
theorem kd_A_isMark_12 : decode kb_A_isMark 12 = .ok (.iconst 1, 1) := by decide +kernel
theorem kd_A_isMark_13 : decode kb_A_isMark 13 = .ok (.goto 4, 3) := by decide +kernel
theorem kd_A_isMark_16 : decode kb_A_isMark 16 = .ok (.iconst 0, 1) := by decide +kernel
theorem kd_A_isMark_17 : decode kb_A_isMark 17 = .ok (.ireturn, 1) := by decide +kernel
theorem kd_A_isPieceAlone_0 : decode kb_A_isPieceAlone 0 = .ok (.iload_n 0, 1) := by decide +kernel
theorem kd_A_isPieceAlone_1 : decode kb_A_isPieceAlone 1 = .ok (.invokestatic 15, 3) := by decide +kernel
theorem kd_A_isPieceAlone_4 : decode kb_A_isPieceAlone 4 = .ok (.ifCond .ne 30, 3) := by decide +kernel
theorem kd_A_isPieceAlone_7 : decode kb_A_isPieceAlone 7 = .ok (.iload_n 0, 1) := by decide +kernel
theorem kd_A_isPieceAlone_8 : decode kb_A_isPieceAlone 8 = .ok (.invokestatic 18, 3) := by decide +kernel
theorem kd_A_isPieceAlone_11 : decode kb_A_isPieceAlone 11 = .ok (.ifCond .ne 23, 3) := by decide +kernel
theorem kd_A_isPieceAlone_14 : decode kb_A_isPieceAlone 14 = .ok (.iload_n 0, 1) := by decide +kernel
theorem kd_A_isPieceAlone_15 : decode kb_A_isPieceAlone 15 = .ok (.invokestatic 21, 3) := by decide +kernel
theorem kd_A_isPieceAlone_18 : decode kb_A_isPieceAlone 18 = .ok (.ifCond .ne 16, 3) := by decide +kernel
theorem kd_A_isPieceAlone_21 : decode kb_A_isPieceAlone 21 = .ok (.iload_n 0, 1) := by decide +kernel
theorem kd_A_isPieceAlone_22 : decode kb_A_isPieceAlone 22 = .ok (.invokestatic 24, 3) := by decide +kernel
theorem kd_A_isPieceAlone_25 : decode kb_A_isPieceAlone 25 = .ok (.ifCond .ne 9, 3) := by decide +kernel
theorem kd_A_isPieceAlone_28 : decode kb_A_isPieceAlone 28 = .ok (.iload_n 0, 1) := by decide +kernel
theorem kd_A_isPieceAlone_29 : decode kb_A_isPieceAlone 29 = .ok (.bipush 112, 2) := by decide +kernel
theorem kd_A_isPieceAlone_31 : decode kb_A_isPieceAlone 31 = .ok (.if_icmp .ne 7, 3) := by decide +kernel
theorem kd_A_isPieceAlone_34 : decode kb_A_isPieceAlone 34 = .ok (.iconst 1, 1) := by decide +kernel
theorem kd_A_isPieceAlone_35 : decode kb_A_isPieceAlone 35 = .ok (.goto 4, 3) := by decide +kernel
theorem kd_A_isPieceAlone_38 : decode kb_A_isPieceAlone 38 = .ok (.iconst 0, 1) := by decide +kernel
theorem kd_A_isPieceAlone_39 : decode kb_A_isPieceAlone 39 = .ok (.ireturn, 1) := by decide +kernel
theorem kd_A_firstOfPrototype_0 : decode kb_A_firstOfPrototype 0 = .ok (.iload_n 0, 1) := by decide +kernel
theorem kd_A_firstOfPrototype_1 : decode kb_A_firstOfPrototype 1 = .ok (.invokestatic 30, 3) := by decide +kernel
theorem kd_A_firstOfPrototype_4 : decode kb_A_firstOfPrototype 4 = .ok (.istore_n 1, 1) := by decide +kernel
theorem kd_A_firstOfPrototype_5 : decode kb_A_firstOfPrototype 5 = .ok (.iload_n 1, 1) := by decide +kernel
theorem kd_A_firstOfPrototype_6 : decode kb_A_firstOfPrototype 6 = .ok (.lookupswitch 124 #[(12, 98), (55, 109), (72, 101), (73, 101), (74, 101), (96, 112), (97, 115), (100, 112), (101, 115), (109, 118), (118, 121)], 98) := by decide +kernel
theorem kd_A_firstOfPrototype_104 : decode kb_A_firstOfPrototype 104 = .ok (.bipush 13, 2) := by decide +kernel
theorem kd_A_firstOfPrototype_106 : decode kb_A_firstOfPrototype 106 = .ok (.ireturn, 1) := by decide +kernel
theorem kd_A_firstOfPrototype_107 : decode kb_A_firstOfPrototype 107 = .ok (.iload_n 1, 1) := by decide +kernel
theorem kd_A_firstOfPrototype_108 : decode kb_A_firstOfPrototype 108 = .ok (.bipush 72, 2) := by decide +kernel
theorem kd_A_firstOfPrototype_110 : decode kb_A_firstOfPrototype 110 = .ok (.isub, 1) := by decide +kernel
theorem kd_A_firstOfPrototype_111 : decode kb_A_firstOfPrototype 111 = .ok (.bipush 48, 2) := by decide +kernel
theorem kd_A_firstOfPrototype_113 : decode kb_A_firstOfPrototype 113 = .ok (.iadd, 1) := by decide +kernel
theorem kd_A_firstOfPrototype_114 : decode kb_A_firstOfPrototype 114 = .ok (.ireturn, 1) := by decide +kernel
theorem kd_A_firstOfPrototype_115 : decode kb_A_firstOfPrototype 115 = .ok (.bipush 49, 2) := by decide +kernel
theorem kd_A_firstOfPrototype_117 : decode kb_A_firstOfPrototype 117 = .ok (.ireturn, 1) := by decide +kernel
theorem kd_A_firstOfPrototype_118 : decode kb_A_firstOfPrototype 118 = .ok (.bipush 14, 2) := by decide +kernel
theorem kd_A_firstOfPrototype_120 : decode kb_A_firstOfPrototype 120 = .ok (.ireturn, 1) := by decide +kernel
theorem kd_A_firstOfPrototype_121 : decode kb_A_firstOfPrototype 121 = .ok (.bipush 11, 2) := by decide +kernel
theorem kd_A_firstOfPrototype_123 : decode kb_A_firstOfPrototype 123 = .ok (.ireturn, 1) := by decide +kernel
theorem kd_A_firstOfPrototype_124 : decode kb_A_firstOfPrototype 124 = .ok (.bipush 105, 2) := by decide +kernel
theorem kd_A_firstOfPrototype_126 : decode kb_A_firstOfPrototype 126 = .ok (.ireturn, 1) := by decide +kernel
theorem kd_A_firstOfPrototype_127 : decode kb_A_firstOfPrototype 127 = .ok (.bipush 114, 2) := by decide +kernel
theorem kd_A_firstOfPrototype_129 : decode kb_A_firstOfPrototype 129 = .ok (.ireturn, 1) := by decide +kernel
theorem kd_A_firstOfPrototype_130 : decode kb_A_firstOfPrototype 130 = .ok (.iload_n 1, 1) := by decide +kernel
theorem kd_A_firstOfPrototype_131 : decode kb_A_firstOfPrototype 131 = .ok (.ireturn, 1) := by decide +kernel
theorem kd_A_latinFor_0 : decode kb_A_latinFor 0 = .ok (.iload_n 0, 1) := by decide +kernel
theorem kd_A_latinFor_1 : decode kb_A_latinFor 1 = .ok (.bipush 16, 2) := by decide +kernel
theorem kd_A_latinFor_3 : decode kb_A_latinFor 3 = .ok (.if_icmp .lt 23, 3) := by decide +kernel
theorem kd_A_latinFor_6 : decode kb_A_latinFor 6 = .ok (.iload_n 0, 1) := by decide +kernel
theorem kd_A_latinFor_7 : decode kb_A_latinFor 7 = .ok (.bipush 31, 2) := by decide +kernel
theorem kd_A_latinFor_9 : decode kb_A_latinFor 9 = .ok (.if_icmp .gt 17, 3) := by decide +kernel
theorem kd_A_latinFor_12 : decode kb_A_latinFor 12 = .ok (.iload_n 0, 1) := by decide +kernel
theorem kd_A_latinFor_13 : decode kb_A_latinFor 13 = .ok (.bipush 16, 2) := by decide +kernel
theorem kd_A_latinFor_15 : decode kb_A_latinFor 15 = .ok (.isub, 1) := by decide +kernel
theorem kd_A_latinFor_16 : decode kb_A_latinFor 16 = .ok (.iconst 2, 1) := by decide +kernel
theorem kd_A_latinFor_17 : decode kb_A_latinFor 17 = .ok (.irem, 1) := by decide +kernel
theorem kd_A_latinFor_18 : decode kb_A_latinFor 18 = .ok (.ifCond .ne 8, 3) := by decide +kernel
theorem kd_A_latinFor_21 : decode kb_A_latinFor 21 = .ok (.iload_n 0, 1) := by decide +kernel
theorem kd_A_latinFor_22 : decode kb_A_latinFor 22 = .ok (.bipush 16, 2) := by decide +kernel
theorem kd_A_latinFor_24 : decode kb_A_latinFor 24 = .ok (.isub, 1) := by decide +kernel
theorem kd_A_latinFor_25 : decode kb_A_latinFor 25 = .ok (.ireturn, 1) := by decide +kernel
theorem kd_A_latinFor_26 : decode kb_A_latinFor 26 = .ok (.iload_n 0, 1) := by decide +kernel
theorem kd_A_latinFor_27 : decode kb_A_latinFor 27 = .ok (.bipush 32, 2) := by decide +kernel
theorem kd_A_latinFor_29 : decode kb_A_latinFor 29 = .ok (.if_icmp .lt 23, 3) := by decide +kernel
theorem kd_A_latinFor_32 : decode kb_A_latinFor 32 = .ok (.iload_n 0, 1) := by decide +kernel
theorem kd_A_latinFor_33 : decode kb_A_latinFor 33 = .ok (.bipush 47, 2) := by decide +kernel
theorem kd_A_latinFor_35 : decode kb_A_latinFor 35 = .ok (.if_icmp .gt 17, 3) := by decide +kernel
theorem kd_A_latinFor_38 : decode kb_A_latinFor 38 = .ok (.iload_n 0, 1) := by decide +kernel
theorem kd_A_latinFor_39 : decode kb_A_latinFor 39 = .ok (.bipush 32, 2) := by decide +kernel
theorem kd_A_latinFor_41 : decode kb_A_latinFor 41 = .ok (.isub, 1) := by decide +kernel
theorem kd_A_latinFor_42 : decode kb_A_latinFor 42 = .ok (.iconst 3, 1) := by decide +kernel
theorem kd_A_latinFor_43 : decode kb_A_latinFor 43 = .ok (.irem, 1) := by decide +kernel
theorem kd_A_latinFor_44 : decode kb_A_latinFor 44 = .ok (.ifCond .ne 8, 3) := by decide +kernel
theorem kd_A_latinFor_47 : decode kb_A_latinFor 47 = .ok (.iload_n 0, 1) := by decide +kernel
theorem kd_A_latinFor_48 : decode kb_A_latinFor 48 = .ok (.bipush 32, 2) := by decide +kernel
theorem kd_A_latinFor_50 : decode kb_A_latinFor 50 = .ok (.isub, 1) := by decide +kernel
theorem kd_A_latinFor_51 : decode kb_A_latinFor 51 = .ok (.ireturn, 1) := by decide +kernel
theorem kd_A_latinFor_52 : decode kb_A_latinFor 52 = .ok (.iload_n 0, 1) := by decide +kernel
theorem kd_A_latinFor_53 : decode kb_A_latinFor 53 = .ok (.ireturn, 1) := by decide +kernel
theorem kd_A_secondOfPrototype_0 : decode kb_A_secondOfPrototype 0 = .ok (.iload_n 0, 1) := by decide +kernel
theorem kd_A_secondOfPrototype_1 : decode kb_A_secondOfPrototype 1 = .ok (.invokestatic 30, 3) := by decide +kernel
theorem kd_A_secondOfPrototype_4 : decode kb_A_secondOfPrototype 4 = .ok (.lookupswitch 45 #[(12, 36), (55, 39), (118, 42)], 36) := by decide +kernel
theorem kd_A_secondOfPrototype_40 : decode kb_A_secondOfPrototype 40 = .ok (.bipush 15, 2) := by decide +kernel
theorem kd_A_secondOfPrototype_42 : decode kb_A_secondOfPrototype 42 = .ok (.ireturn, 1) := by decide +kernel
theorem kd_A_secondOfPrototype_43 : decode kb_A_secondOfPrototype 43 = .ok (.bipush 49, 2) := by decide +kernel
theorem kd_A_secondOfPrototype_45 : decode kb_A_secondOfPrototype 45 = .ok (.ireturn, 1) := by decide +kernel
theorem kd_A_secondOfPrototype_46 : decode kb_A_secondOfPrototype 46 = .ok (.bipush 114, 2) := by decide +kernel
theorem kd_A_secondOfPrototype_48 : decode kb_A_secondOfPrototype 48 = .ok (.ireturn, 1) := by decide +kernel
theorem kd_A_secondOfPrototype_49 : decode kb_A_secondOfPrototype 49 = .ok (.iconst (-1), 1) := by decide +kernel
theorem kd_A_secondOfPrototype_50 : decode kb_A_secondOfPrototype 50 = .ok (.ireturn, 1) := by decide +kernel
theorem kh_A_setOf : ky_A_setOf.cls ≠ "java/lang/invoke/MethodHandle" ∧ ky_A_setOf.cls ≠ "java/lang/invoke/VarHandle" ∧ (parseMethodDescriptor ky_A_setOf.desc).map (fun d => d.parameters.length) = some 1 := by decide +kernel
theorem kh_A_isEasternDigit : ky_A_isEasternDigit.cls ≠ "java/lang/invoke/MethodHandle" ∧ ky_A_isEasternDigit.cls ≠ "java/lang/invoke/VarHandle" ∧ (parseMethodDescriptor ky_A_isEasternDigit.desc).map (fun d => d.parameters.length) = some 1 := by decide +kernel
theorem kh_A_isLetter : ky_A_isLetter.cls ≠ "java/lang/invoke/MethodHandle" ∧ ky_A_isLetter.cls ≠ "java/lang/invoke/VarHandle" ∧ (parseMethodDescriptor ky_A_isLetter.desc).map (fun d => d.parameters.length) = some 1 := by decide +kernel
theorem kh_A_isComposed : ky_A_isComposed.cls ≠ "java/lang/invoke/MethodHandle" ∧ ky_A_isComposed.cls ≠ "java/lang/invoke/VarHandle" ∧ (parseMethodDescriptor ky_A_isComposed.desc).map (fun d => d.parameters.length) = some 1 := by decide +kernel
theorem kh_A_setOfLetter : ky_A_setOfLetter.cls ≠ "java/lang/invoke/MethodHandle" ∧ ky_A_setOfLetter.cls ≠ "java/lang/invoke/VarHandle" ∧ (parseMethodDescriptor ky_A_setOfLetter.desc).map (fun d => d.parameters.length) = some 1 := by decide +kernel
theorem kh_A_isForbidden : ky_A_isForbidden.cls ≠ "java/lang/invoke/MethodHandle" ∧ ky_A_isForbidden.cls ≠ "java/lang/invoke/VarHandle" ∧ (parseMethodDescriptor ky_A_isForbidden.desc).map (fun d => d.parameters.length) = some 1 := by decide +kernel
theorem kh_A_isPlain : ky_A_isPlain.cls ≠ "java/lang/invoke/MethodHandle" ∧ ky_A_isPlain.cls ≠ "java/lang/invoke/VarHandle" ∧ (parseMethodDescriptor ky_A_isPlain.desc).map (fun d => d.parameters.length) = some 1 := by decide +kernel
theorem kh_A_isWesternDigit : ky_A_isWesternDigit.cls ≠ "java/lang/invoke/MethodHandle" ∧ ky_A_isWesternDigit.cls ≠ "java/lang/invoke/VarHandle" ∧ (parseMethodDescriptor ky_A_isWesternDigit.desc).map (fun d => d.parameters.length) = some 1 := by decide +kernel
theorem kh_A_isDashOrDot : ky_A_isDashOrDot.cls ≠ "java/lang/invoke/MethodHandle" ∧ ky_A_isDashOrDot.cls ≠ "java/lang/invoke/VarHandle" ∧ (parseMethodDescriptor ky_A_isDashOrDot.desc).map (fun d => d.parameters.length) = some 1 := by decide +kernel
theorem kh_A_isInvisible : ky_A_isInvisible.cls ≠ "java/lang/invoke/MethodHandle" ∧ ky_A_isInvisible.cls ≠ "java/lang/invoke/VarHandle" ∧ (parseMethodDescriptor ky_A_isInvisible.desc).map (fun d => d.parameters.length) = some 1 := by decide +kernel
theorem kh_A_letterOf : ky_A_letterOf.cls ≠ "java/lang/invoke/MethodHandle" ∧ ky_A_letterOf.cls ≠ "java/lang/invoke/VarHandle" ∧ (parseMethodDescriptor ky_A_letterOf.desc).map (fun d => d.parameters.length) = some 1 := by decide +kernel
theorem kh_A_markOf : ky_A_markOf.cls ≠ "java/lang/invoke/MethodHandle" ∧ ky_A_markOf.cls ≠ "java/lang/invoke/VarHandle" ∧ (parseMethodDescriptor ky_A_markOf.desc).map (fun d => d.parameters.length) = some 1 := by decide +kernel
theorem kh_A_markClass : ky_A_markClass.cls ≠ "java/lang/invoke/MethodHandle" ∧ ky_A_markClass.cls ≠ "java/lang/invoke/VarHandle" ∧ (parseMethodDescriptor ky_A_markClass.desc).map (fun d => d.parameters.length) = some 1 := by decide +kernel
theorem kh_A_isMark : ky_A_isMark.cls ≠ "java/lang/invoke/MethodHandle" ∧ ky_A_isMark.cls ≠ "java/lang/invoke/VarHandle" ∧ (parseMethodDescriptor ky_A_isMark.desc).map (fun d => d.parameters.length) = some 1 := by decide +kernel
theorem kh_A_isPieceAlone : ky_A_isPieceAlone.cls ≠ "java/lang/invoke/MethodHandle" ∧ ky_A_isPieceAlone.cls ≠ "java/lang/invoke/VarHandle" ∧ (parseMethodDescriptor ky_A_isPieceAlone.desc).map (fun d => d.parameters.length) = some 1 := by decide +kernel
theorem kh_A_firstOfPrototype : ky_A_firstOfPrototype.cls ≠ "java/lang/invoke/MethodHandle" ∧ ky_A_firstOfPrototype.cls ≠ "java/lang/invoke/VarHandle" ∧ (parseMethodDescriptor ky_A_firstOfPrototype.desc).map (fun d => d.parameters.length) = some 1 := by decide +kernel
theorem kh_A_latinFor : ky_A_latinFor.cls ≠ "java/lang/invoke/MethodHandle" ∧ ky_A_latinFor.cls ≠ "java/lang/invoke/VarHandle" ∧ (parseMethodDescriptor ky_A_latinFor.desc).map (fun d => d.parameters.length) = some 1 := by decide +kernel
theorem kh_A_secondOfPrototype : ky_A_secondOfPrototype.cls ≠ "java/lang/invoke/MethodHandle" ∧ ky_A_secondOfPrototype.cls ≠ "java/lang/invoke/VarHandle" ∧ (parseMethodDescriptor ky_A_secondOfPrototype.desc).map (fun d => d.parameters.length) = some 1 := by decide +kernel
