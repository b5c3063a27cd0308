theorem kd_J_commonSet_0 : decode kb_J_commonSet 0 = .ok (.sipush 4095, 3) := by decide +kernel
theorem kd_J_commonSet_3 : decode kb_J_commonSet 3 = .ok (.istore_n 1, 1) := by decide +kernel
theorem kd_J_commonSet_4 : decode kb_J_commonSet 4 = .ok (.iconst 0, 1) := by decide +kernel
theorem kd_J_commonSet_5 : decode kb_J_commonSet 5 = .ok (.istore_n 2, 1) := by decide +kernel
theorem kd_J_commonSet_6 : decode kb_J_commonSet 6 = .ok (.iload_n 2, 1) := by decide +kernel
theorem kd_J_commonSet_7 : decode kb_J_commonSet 7 = .ok (.aload_n 0, 1) := by decide +kernel
theorem kd_J_commonSet_8 : decode kb_J_commonSet 8 = .ok (.invokevirtual 9, 3) := by decide +kernel
theorem kd_J_commonSet_11 : decode kb_J_commonSet 11 = .ok (.if_icmp .ge 20, 3) := by decide +kernel
theorem kd_J_commonSet_14 : decode kb_J_commonSet 14 = .ok (.iload_n 1, 1) := by decide +kernel
theorem kd_J_commonSet_15 : decode kb_J_commonSet 15 = .ok (.aload_n 0, 1) := by decide +kernel
theorem kd_J_commonSet_16 : decode kb_J_commonSet 16 = .ok (.iload_n 2, 1) := by decide +kernel
theorem kd_J_commonSet_17 : decode kb_J_commonSet 17 = .ok (.invokevirtual 15, 3) := by decide +kernel
theorem kd_J_commonSet_20 : decode kb_J_commonSet 20 = .ok (.invokestatic 19, 3) := by decide +kernel
theorem kd_J_commonSet_23 : decode kb_J_commonSet 23 = .ok (.iand, 1) := by decide +kernel
theorem kd_J_commonSet_24 : decode kb_J_commonSet 24 = .ok (.istore_n 1, 1) := by decide +kernel
theorem kd_J_commonSet_25 : decode kb_J_commonSet 25 = .ok (.iinc 2 1, 3) := by decide +kernel
theorem kd_J_commonSet_28 : decode kb_J_commonSet 28 = .ok (.goto (-22), 3) := by decide +kernel
theorem kd_J_commonSet_31 : decode kb_J_commonSet 31 = .ok (.iload_n 1, 1) := by decide +kernel
theorem kd_J_commonSet_32 : decode kb_J_commonSet 32 = .ok (.ireturn, 1) := by decide +kernel
theorem kd_J_strictness_0 : decode kb_J_strictness 0 = .ok (.aload_n 0, 1) := by decide +kernel
theorem kd_J_strictness_1 : decode kb_J_strictness 1 = .ok (.invokestatic 22, 3) := by decide +kernel
theorem kd_J_strictness_4 : decode kb_J_strictness 4 = .ok (.ifCond .eq 6, 3) := by decide +kernel
theorem kd_J_strictness_7 : decode kb_J_strictness 7 = .ok (.bipush 6, 2) := by decide +kernel
theorem kd_J_strictness_9 : decode kb_J_strictness 9 = .ok (.ireturn, 1) := by decide +kernel
theorem kd_J_strictness_10 : decode kb_J_strictness 10 = .ok (.aload_n 0, 1) := by decide +kernel
theorem kd_J_strictness_11 : decode kb_J_strictness 11 = .ok (.invokestatic 28, 3) := by decide +kernel
theorem kd_J_strictness_14 : decode kb_J_strictness 14 = .ok (.ifCond .eq 5, 3) := by decide +kernel
theorem kd_J_strictness_17 : decode kb_J_strictness 17 = .ok (.iconst 1, 1) := by decide +kernel
theorem kd_J_strictness_18 : decode kb_J_strictness 18 = .ok (.ireturn, 1) := by decide +kernel
theorem kd_J_strictness_19 : decode kb_J_strictness 19 = .ok (.aload_n 0, 1) := by decide +kernel
theorem kd_J_strictness_20 : decode kb_J_strictness 20 = .ok (.invokestatic 31, 3) := by decide +kernel
theorem kd_J_strictness_23 : decode kb_J_strictness 23 = .ok (.ifCond .eq 5, 3) := by decide +kernel
theorem kd_J_strictness_26 : decode kb_J_strictness 26 = .ok (.iconst 2, 1) := by decide +kernel
theorem kd_J_strictness_27 : decode kb_J_strictness 27 = .ok (.ireturn, 1) := by decide +kernel
theorem kd_J_strictness_28 : decode kb_J_strictness 28 = .ok (.aload_n 0, 1) := by decide +kernel
theorem kd_J_strictness_29 : decode kb_J_strictness 29 = .ok (.invokestatic 35, 3) := by decide +kernel
theorem kd_J_strictness_32 : decode kb_J_strictness 32 = .ok (.ifCond .eq 5, 3) := by decide +kernel
theorem kd_J_strictness_35 : decode kb_J_strictness 35 = .ok (.iconst 3, 1) := by decide +kernel
theorem kd_J_strictness_36 : decode kb_J_strictness 36 = .ok (.ireturn, 1) := by decide +kernel
theorem kd_J_strictness_37 : decode kb_J_strictness 37 = .ok (.aload_n 0, 1) := by decide +kernel
theorem kd_J_strictness_38 : decode kb_J_strictness 38 = .ok (.invokestatic 38, 3) := by decide +kernel
theorem kd_J_strictness_41 : decode kb_J_strictness 41 = .ok (.ifCond .eq 7, 3) := by decide +kernel
theorem kd_J_strictness_44 : decode kb_J_strictness 44 = .ok (.iconst 4, 1) := by decide +kernel
theorem kd_J_strictness_45 : decode kb_J_strictness 45 = .ok (.goto 4, 3) := by decide +kernel
theorem kd_J_strictness_48 : decode kb_J_strictness 48 = .ok (.iconst 5, 1) := by decide +kernel
theorem kd_J_strictness_49 : decode kb_J_strictness 49 = .ok (.ireturn, 1) := by decide +kernel
theorem kd_J_hasForbidden_0 : decode kb_J_hasForbidden 0 = .ok (.iconst 0, 1) := by decide +kernel
theorem kd_J_hasForbidden_1 : decode kb_J_hasForbidden 1 = .ok (.istore_n 1, 1) := by decide +kernel
theorem kd_J_hasForbidden_2 : decode kb_J_hasForbidden 2 = .ok (.iload_n 1, 1) := by decide +kernel
theorem kd_J_hasForbidden_3 : decode kb_J_hasForbidden 3 = .ok (.aload_n 0, 1) := by decide +kernel
theorem kd_J_hasForbidden_4 : decode kb_J_hasForbidden 4 = .ok (.invokevirtual 9, 3) := by decide +kernel
theorem kd_J_hasForbidden_7 : decode kb_J_hasForbidden 7 = .ok (.if_icmp .ge 22, 3) := by decide +kernel
theorem kd_J_hasForbidden_10 : decode kb_J_hasForbidden 10 = .ok (.aload_n 0, 1) := by decide +kernel
theorem kd_J_hasForbidden_11 : decode kb_J_hasForbidden 11 = .ok (.iload_n 1, 1) := by decide +kernel
theorem kd_J_hasForbidden_12 : decode kb_J_hasForbidden 12 = .ok (.invokevirtual 15, 3) := by decide +kernel
theorem kd_J_hasForbidden_15 : decode kb_J_hasForbidden 15 = .ok (.invokestatic 41, 3) := by decide +kernel
theorem kd_J_hasForbidden_18 : decode kb_J_hasForbidden 18 = .ok (.ifCond .eq 5, 3) := by decide +kernel
theorem kd_J_hasForbidden_21 : decode kb_J_hasForbidden 21 = .ok (.iconst 1, 1) := by decide +kernel
theorem kd_J_hasForbidden_22 : decode kb_J_hasForbidden 22 = .ok (.ireturn, 1) := by decide +kernel
theorem kd_J_hasForbidden_23 : decode kb_J_hasForbidden 23 = .ok (.iinc 1 1, 3) := by decide +kernel
theorem kd_J_hasForbidden_26 : decode kb_J_hasForbidden 26 = .ok (.goto (-24), 3) := by decide +kernel
theorem kd_J_hasForbidden_29 : decode kb_J_hasForbidden 29 = .ok (.iconst 0, 1) := by decide +kernel
theorem kd_J_hasForbidden_30 : decode kb_J_hasForbidden 30 = .ok (.ireturn, 1) := by decide +kernel
theorem kd_J_isPlain_0 : decode kb_J_isPlain 0 = .ok (.iconst 0, 1) := by decide +kernel
theorem kd_J_isPlain_1 : decode kb_J_isPlain 1 = .ok (.istore_n 1, 1) := by decide +kernel
theorem kd_J_isPlain_2 : decode kb_J_isPlain 2 = .ok (.iload_n 1, 1) := by decide +kernel
theorem kd_J_isPlain_3 : decode kb_J_isPlain 3 = .ok (.aload_n 0, 1) := by decide +kernel
theorem kd_J_isPlain_4 : decode kb_J_isPlain 4 = .ok (.invokevirtual 9, 3) := by decide +kernel
theorem kd_J_isPlain_7 : decode kb_J_isPlain 7 = .ok (.if_icmp .ge 22, 3) := by decide +kernel
theorem kd_J_isPlain_10 : decode kb_J_isPlain 10 = .ok (.aload_n 0, 1) := by decide +kernel
theorem kd_J_isPlain_11 : decode kb_J_isPlain 11 = .ok (.iload_n 1, 1) := by decide +kernel
theorem kd_J_isPlain_12 : decode kb_J_isPlain 12 = .ok (.invokevirtual 15, 3) := by decide +kernel
theorem kd_J_isPlain_15 : decode kb_J_isPlain 15 = .ok (.invokestatic 45, 3) := by decide +kernel
theorem kd_J_isPlain_18 : decode kb_J_isPlain 18 = .ok (.ifCond .ne 5, 3) := by decide +kernel
theorem kd_J_isPlain_21 : decode kb_J_isPlain 21 = .ok (.iconst 0, 1) := by decide +kernel
theorem kd_J_isPlain_22 : decode kb_J_isPlain 22 = .ok (.ireturn, 1) := by decide +kernel
theorem kd_J_isPlain_23 : decode kb_J_isPlain 23 = .ok (.iinc 1 1, 3) := by decide +kernel
theorem kd_J_isPlain_26 : decode kb_J_isPlain 26 = .ok (.goto (-24), 3) := by decide +kernel
theorem kd_J_isPlain_29 : decode kb_J_isPlain 29 = .ok (.iconst 1, 1) := by decide +kernel
theorem kd_J_isPlain_30 : decode kb_J_isPlain 30 = .ok (.ireturn, 1) := by decide +kernel
theorem kd_J_isLatinWithMixedScript_0 : decode kb_J_isLatinWithMixedScript 0 = .ok (.aload_n 0, 1) := by decide +kernel
theorem kd_J_isLatinWithMixedScript_1 : decode kb_J_isLatinWithMixedScript 1 = .ok (.sipush 512, 3) := by decide +kernel
theorem kd_J_isLatinWithMixedScript_4 : decode kb_J_isLatinWithMixedScript 4 = .ok (.invokestatic 47, 3) := by decide +kernel
theorem kd_J_isLatinWithMixedScript_7 : decode kb_J_isLatinWithMixedScript 7 = .ok (.ifCond .ne 23, 3) := by decide +kernel
theorem kd_J_isLatinWithMixedScript_10 : decode kb_J_isLatinWithMixedScript 10 = .ok (.aload_n 0, 1) := by decide +kernel
theorem kd_J_isLatinWithMixedScript_11 : decode kb_J_isLatinWithMixedScript 11 = .ok (.sipush 1024, 3) := by decide +kernel
theorem kd_J_isLatinWithMixedScript_14 : decode kb_J_isLatinWithMixedScript 14 = .ok (.invokestatic 47, 3) := by decide +kernel
theorem kd_J_isLatinWithMixedScript_17 : decode kb_J_isLatinWithMixedScript 17 = .ok (.ifCond .ne 13, 3) := by decide +kernel
theorem kd_J_isLatinWithMixedScript_20 : decode kb_J_isLatinWithMixedScript 20 = .ok (.aload_n 0, 1) := by decide +kernel
theorem kd_J_isLatinWithMixedScript_21 : decode kb_J_isLatinWithMixedScript 21 = .ok (.sipush 2048, 3) := by decide +kernel
theorem kd_J_isLatinWithMixedScript_24 : decode kb_J_isLatinWithMixedScript 24 = .ok (.invokestatic 47, 3) := by decide +kernel
theorem kd_J_isLatinWithMixedScript_27 : decode kb_J_isLatinWithMixedScript 27 = .ok (.ifCond .eq 7, 3) := by decide +kernel
theorem kd_J_isLatinWithMixedScript_30 : decode kb_J_isLatinWithMixedScript 30 = .ok (.iconst 1, 1) := by decide +kernel
theorem kd_J_isLatinWithMixedScript_31 : decode kb_J_isLatinWithMixedScript 31 = .ok (.goto 4, 3) := by decide +kernel
theorem kd_J_isLatinWithMixedScript_34 : decode kb_J_isLatinWithMixedScript 34 = .ok (.iconst 0, 1) := by decide +kernel
theorem kd_J_isLatinWithMixedScript_35 : decode kb_J_isLatinWithMixedScript 35 = .ok (.ireturn, 1) := by decide +kernel
theorem kd_J_eachIsLatinOr_0 : decode kb_J_eachIsLatinOr 0 = .ok (.iconst 0, 1) := by decide +kernel
theorem kd_J_eachIsLatinOr_1 : decode kb_J_eachIsLatinOr 1 = .ok (.istore_n 2, 1) := by decide +kernel
theorem kd_J_eachIsLatinOr_2 : decode kb_J_eachIsLatinOr 2 = .ok (.iload_n 2, 1) := by decide +kernel
theorem kd_J_eachIsLatinOr_3 : decode kb_J_eachIsLatinOr 3 = .ok (.aload_n 0, 1) := by decide +kernel
theorem kd_J_eachIsLatinOr_4 : decode kb_J_eachIsLatinOr 4 = .ok (.invokevirtual 9, 3) := by decide +kernel
theorem kd_J_eachIsLatinOr_7 : decode kb_J_eachIsLatinOr 7 = .ok (.if_icmp .ge 26, 3) := by decide +kernel
theorem kd_J_eachIsLatinOr_10 : decode kb_J_eachIsLatinOr 10 = .ok (.aload_n 0, 1) := by decide +kernel
theorem kd_J_eachIsLatinOr_11 : decode kb_J_eachIsLatinOr 11 = .ok (.iload_n 2, 1) := by decide +kernel
theorem kd_J_eachIsLatinOr_12 : decode kb_J_eachIsLatinOr 12 = .ok (.invokevirtual 15, 3) := by decide +kernel
theorem kd_J_eachIsLatinOr_15 : decode kb_J_eachIsLatinOr 15 = .ok (.invokestatic 19, 3) := by decide +kernel
theorem kd_J_eachIsLatinOr_18 : decode kb_J_eachIsLatinOr 18 = .ok (.iconst 1, 1) := by decide +kernel
theorem kd_J_eachIsLatinOr_19 : decode kb_J_eachIsLatinOr 19 = .ok (.iload_n 1, 1) := by decide +kernel
theorem kd_J_eachIsLatinOr_20 : decode kb_J_eachIsLatinOr 20 = .ok (.ior, 1) := by decide +kernel
theorem kd_J_eachIsLatinOr_21 : decode kb_J_eachIsLatinOr 21 = .ok (.iand, 1) := by decide +kernel
theorem kd_J_eachIsLatinOr_22 : decode kb_J_eachIsLatinOr 22 = .ok (.ifCond .ne 5, 3) := by decide +kernel
theorem kd_J_eachIsLatinOr_25 : decode kb_J_eachIsLatinOr 25 = .ok (.iconst 0, 1) := by decide +kernel
theorem kd_J_eachIsLatinOr_26 : decode kb_J_eachIsLatinOr 26 = .ok (.ireturn, 1) := by decide +kernel
theorem kd_J_eachIsLatinOr_27 : decode kb_J_eachIsLatinOr 27 = .ok (.iinc 2 1, 3) := by decide +kernel
theorem kd_J_eachIsLatinOr_30 : decode kb_J_eachIsLatinOr 30 = .ok (.goto (-28), 3) := by decide +kernel
theorem kd_J_eachIsLatinOr_33 : decode kb_J_eachIsLatinOr 33 = .ok (.iconst 1, 1) := by decide +kernel
theorem kd_J_eachIsLatinOr_34 : decode kb_J_eachIsLatinOr 34 = .ok (.ireturn, 1) := by decide +kernel
theorem kd_J_isLatinWithOneScript_0 : decode kb_J_isLatinWithOneScript 0 = .ok (.aload_n 0, 1) := by decide +kernel
theorem kd_J_isLatinWithOneScript_1 : decode kb_J_isLatinWithOneScript 1 = .ok (.bipush 8, 2) := by decide +kernel
theorem kd_J_isLatinWithOneScript_3 : decode kb_J_isLatinWithOneScript 3 = .ok (.invokestatic 47, 3) := by decide +kernel
theorem kd_J_isLatinWithOneScript_6 : decode kb_J_isLatinWithOneScript 6 = .ok (.ifCond .ne 50, 3) := by decide +kernel
theorem kd_J_isLatinWithOneScript_9 : decode kb_J_isLatinWithOneScript 9 = .ok (.aload_n 0, 1) := by decide +kernel
theorem kd_J_isLatinWithOneScript_10 : decode kb_J_isLatinWithOneScript 10 = .ok (.bipush 16, 2) := by decide +kernel
theorem kd_J_isLatinWithOneScript_12 : decode kb_J_isLatinWithOneScript 12 = .ok (.invokestatic 47, 3) := by decide +kernel
theorem kd_J_isLatinWithOneScript_15 : decode kb_J_isLatinWithOneScript 15 = .ok (.ifCond .ne 41, 3) := by decide +kernel
theorem kd_J_isLatinWithOneScript_18 : decode kb_J_isLatinWithOneScript 18 = .ok (.aload_n 0, 1) := by decide +kernel
theorem kd_J_isLatinWithOneScript_19 : decode kb_J_isLatinWithOneScript 19 = .ok (.bipush 32, 2) := by decide +kernel
theorem kd_J_isLatinWithOneScript_21 : decode kb_J_isLatinWithOneScript 21 = .ok (.invokestatic 47, 3) := by decide +kernel
theorem kd_J_isLatinWithOneScript_24 : decode kb_J_isLatinWithOneScript 24 = .ok (.ifCond .ne 32, 3) := by decide +kernel
theorem kd_J_isLatinWithOneScript_27 : decode kb_J_isLatinWithOneScript 27 = .ok (.aload_n 0, 1) := by decide +kernel
theorem kd_J_isLatinWithOneScript_28 : decode kb_J_isLatinWithOneScript 28 = .ok (.bipush 64, 2) := by decide +kernel
theorem kd_J_isLatinWithOneScript_30 : decode kb_J_isLatinWithOneScript 30 = .ok (.invokestatic 47, 3) := by decide +kernel
theorem kd_J_isLatinWithOneScript_33 : decode kb_J_isLatinWithOneScript 33 = .ok (.ifCond .ne 23, 3) := by decide +kernel
theorem kd_J_isLatinWithOneScript_36 : decode kb_J_isLatinWithOneScript 36 = .ok (.aload_n 0, 1) := by decide +kernel
theorem kd_J_isLatinWithOneScript_37 : decode kb_J_isLatinWithOneScript 37 = .ok (.sipush 128, 3) := by decide +kernel
theorem kd_J_isLatinWithOneScript_40 : decode kb_J_isLatinWithOneScript 40 = .ok (.invokestatic 47, 3) := by decide +kernel
theorem kd_J_isLatinWithOneScript_43 : decode kb_J_isLatinWithOneScript 43 = .ok (.ifCond .ne 13, 3) := by decide +kernel
theorem kd_J_isLatinWithOneScript_46 : decode kb_J_isLatinWithOneScript 46 = .ok (.aload_n 0, 1) := by decide +kernel
theorem kd_J_isLatinWithOneScript_47 : decode kb_J_isLatinWithOneScript 47 = .ok (.sipush 256, 3) := by decide +kernel
theorem kd_J_isLatinWithOneScript_50 : decode kb_J_isLatinWithOneScript 50 = .ok (.invokestatic 47, 3) := by decide +kernel
theorem kd_J_isLatinWithOneScript_53 : decode kb_J_isLatinWithOneScript 53 = .ok (.ifCond .eq 7, 3) := by decide +kernel
theorem kd_J_isLatinWithOneScript_56 : decode kb_J_isLatinWithOneScript 56 = .ok (.iconst 1, 1) := by decide +kernel
theorem kd_J_isLatinWithOneScript_57 : decode kb_J_isLatinWithOneScript 57 = .ok (.goto 4, 3) := by decide +kernel
theorem kd_J_isLatinWithOneScript_60 : decode kb_J_isLatinWithOneScript 60 = .ok (.iconst 0, 1) := by decide +kernel
theorem kd_J_isLatinWithOneScript_61 : decode kb_J_isLatinWithOneScript 61 = .ok (.ireturn, 1) := by decide +kernel
theorem kd_J_oddities_0 : decode kb_J_oddities 0 = .ok (.iconst 0, 1) := by decide +kernel
theorem kd_J_oddities_1 : decode kb_J_oddities 1 = .ok (.istore_n 2, 1) := by decide +kernel
theorem kd_J_oddities_2 : decode kb_J_oddities 2 = .ok (.iconst 0, 1) := by decide +kernel
theorem kd_J_oddities_3 : decode kb_J_oddities 3 = .ok (.istore_n 3, 1) := by decide +kernel
theorem kd_J_oddities_4 : decode kb_J_oddities 4 = .ok (.iconst 0, 1) := by decide +kernel
theorem kd_J_oddities_5 : decode kb_J_oddities 5 = .ok (.istore 4, 2) := by decide +kernel
theorem kd_J_oddities_7 : decode kb_J_oddities 7 = .ok (.aload_n 1, 1) := by decide +kernel
theorem kd_J_oddities_8 : decode kb_J_oddities 8 = .ok (.invokevirtual 51, 3) := by decide +kernel
theorem kd_J_oddities_11 : decode kb_J_oddities 11 = .ok (.iconst 0, 1) := by decide +kernel
theorem kd_J_oddities_12 : decode kb_J_oddities 12 = .ok (.istore 5, 2) := by decide +kernel
theorem kd_J_oddities_14 : decode kb_J_oddities 14 = .ok (.iload 5, 2) := by decide +kernel
theorem kd_J_oddities_16 : decode kb_J_oddities 16 = .ok (.aload_n 0, 1) := by decide +kernel
theorem kd_J_oddities_17 : decode kb_J_oddities 17 = .ok (.invokevirtual 9, 3) := by decide +kernel
theorem kd_J_oddities_20 : decode kb_J_oddities 20 = .ok (.if_icmp .ge 79, 3) := by decide +kernel
theorem kd_J_oddities_23 : decode kb_J_oddities 23 = .ok (.aload_n 0, 1) := by decide +kernel
theorem kd_J_oddities_24 : decode kb_J_oddities 24 = .ok (.iload 5, 2) := by decide +kernel
theorem kd_J_oddities_26 : decode kb_J_oddities 26 = .ok (.invokevirtual 15, 3) := by decide +kernel
theorem kd_J_oddities_29 : decode kb_J_oddities 29 = .ok (.istore 6, 2) := by decide +kernel
theorem kd_J_oddities_31 : decode kb_J_oddities 31 = .ok (.iload_n 2, 1) := by decide +kernel
theorem kd_J_oddities_32 : decode kb_J_oddities 32 = .ok (.ifCond .ne 11, 3) := by decide +kernel
theorem kd_J_oddities_35 : decode kb_J_oddities 35 = .ok (.iload 6, 2) := by decide +kernel
theorem kd_J_oddities_37 : decode kb_J_oddities 37 = .ok (.invokestatic 54, 3) := by decide +kernel
theorem kd_J_oddities_40 : decode kb_J_oddities 40 = .ok (.ifCond .eq 7, 3) := by decide +kernel
theorem kd_J_oddities_43 : decode kb_J_oddities 43 = .ok (.iconst 1, 1) := by decide +kernel
theorem kd_J_oddities_44 : decode kb_J_oddities 44 = .ok (.goto 4, 3) := by decide +kernel
theorem kd_J_oddities_47 : decode kb_J_oddities 47 = .ok (.iconst 0, 1) := by decide +kernel
theorem kd_J_oddities_48 : decode kb_J_oddities 48 = .ok (.istore_n 2, 1) := by decide +kernel
theorem kd_J_oddities_49 : decode kb_J_oddities 49 = .ok (.iload_n 3, 1) := by decide +kernel
theorem kd_J_oddities_50 : decode kb_J_oddities 50 = .ok (.ifCond .ne 11, 3) := by decide +kernel
theorem kd_J_oddities_53 : decode kb_J_oddities 53 = .ok (.iload 6, 2) := by decide +kernel
theorem kd_J_oddities_55 : decode kb_J_oddities 55 = .ok (.invokestatic 57, 3) := by decide +kernel
theorem kd_J_oddities_58 : decode kb_J_oddities 58 = .ok (.ifCond .eq 7, 3) := by decide +kernel
theorem kd_J_oddities_61 : decode kb_J_oddities 61 = .ok (.iconst 1, 1) := by decide +kernel
theorem kd_J_oddities_62 : decode kb_J_oddities 62 = .ok (.goto 4, 3) := by decide +kernel
theorem kd_J_oddities_65 : decode kb_J_oddities 65 = .ok (.iconst 0, 1) := by decide +kernel
theorem kd_J_oddities_66 : decode kb_J_oddities 66 = .ok (.istore_n 3, 1) := by decide +kernel
theorem kd_J_oddities_67 : decode kb_J_oddities 67 = .ok (.iload 4, 2) := by decide +kernel
theorem kd_J_oddities_69 : decode kb_J_oddities 69 = .ok (.ifCond .ne 11, 3) := by decide +kernel
theorem kd_J_oddities_72 : decode kb_J_oddities 72 = .ok (.iload 6, 2) := by decide +kernel
theorem kd_J_oddities_74 : decode kb_J_oddities 74 = .ok (.invokestatic 60, 3) := by decide +kernel
theorem kd_J_oddities_77 : decode kb_J_oddities 77 = .ok (.ifCond .eq 7, 3) := by decide +kernel
theorem kd_J_oddities_80 : decode kb_J_oddities 80 = .ok (.iconst 1, 1) := by decide +kernel
theorem kd_J_oddities_81 : decode kb_J_oddities 81 = .ok (.goto 4, 3) := by decide +kernel
theorem kd_J_oddities_84 : decode kb_J_oddities 84 = .ok (.iconst 0, 1) := by decide +kernel
theorem kd_J_oddities_85 : decode kb_J_oddities 85 = .ok (.istore 4, 2) := by decide +kernel
theorem kd_J_oddities_87 : decode kb_J_oddities 87 = .ok (.aload_n 1, 1) := by decide +kernel
theorem kd_J_oddities_88 : decode kb_J_oddities 88 = .ok (.iload 6, 2) := by decide +kernel
theorem kd_J_oddities_90 : decode kb_J_oddities 90 = .ok (.invokevirtual 63, 3) := by decide +kernel
theorem kd_J_oddities_93 : decode kb_J_oddities 93 = .ok (.iinc 5 1, 3) := by decide +kernel
theorem kd_J_oddities_96 : decode kb_J_oddities 96 = .ok (.goto (-82), 3) := by decide +kernel
theorem kd_J_oddities_99 : decode kb_J_oddities 99 = .ok (.iload_n 2, 1) := by decide +kernel
theorem kd_J_oddities_100 : decode kb_J_oddities 100 = .ok (.ifCond .eq 11, 3) := by decide +kernel
theorem kd_J_oddities_103 : decode kb_J_oddities 103 = .ok (.iload_n 3, 1) := by decide +kernel
theorem kd_J_oddities_104 : decode kb_J_oddities 104 = .ok (.ifCond .eq 7, 3) := by decide +kernel
theorem kd_J_oddities_107 : decode kb_J_oddities 107 = .ok (.iconst 1, 1) := by decide +kernel
theorem kd_J_oddities_108 : decode kb_J_oddities 108 = .ok (.goto 4, 3) := by decide +kernel
theorem kd_J_oddities_111 : decode kb_J_oddities 111 = .ok (.iconst 0, 1) := by decide +kernel
theorem kd_J_oddities_112 : decode kb_J_oddities 112 = .ok (.aload_n 1, 1) := by decide +kernel
theorem kd_J_oddities_113 : decode kb_J_oddities 113 = .ok (.invokestatic 67, 3) := by decide +kernel
theorem kd_J_oddities_116 : decode kb_J_oddities 116 = .ok (.ifCond .eq 7, 3) := by decide +kernel
theorem kd_J_oddities_119 : decode kb_J_oddities 119 = .ok (.iconst 2, 1) := by decide +kernel
theorem kd_J_oddities_120 : decode kb_J_oddities 120 = .ok (.goto 4, 3) := by decide +kernel
theorem kd_J_oddities_123 : decode kb_J_oddities 123 = .ok (.iconst 0, 1) := by decide +kernel
theorem kd_J_oddities_124 : decode kb_J_oddities 124 = .ok (.iadd, 1) := by decide +kernel
theorem kd_J_oddities_125 : decode kb_J_oddities 125 = .ok (.iload 4, 2) := by decide +kernel
theorem kd_J_oddities_127 : decode kb_J_oddities 127 = .ok (.ifCond .eq 7, 3) := by decide +kernel
theorem kd_J_oddities_130 : decode kb_J_oddities 130 = .ok (.iconst 4, 1) := by decide +kernel
theorem kd_J_oddities_131 : decode kb_J_oddities 131 = .ok (.goto 4, 3) := by decide +kernel
theorem kd_J_oddities_134 : decode kb_J_oddities 134 = .ok (.iconst 0, 1) := by decide +kernel
theorem kd_J_oddities_135 : decode kb_J_oddities 135 = .ok (.iadd, 1) := by decide +kernel
theorem kd_J_oddities_136 : decode kb_J_oddities 136 = .ok (.aload_n 1, 1) := by decide +kernel
theorem kd_J_oddities_137 : decode kb_J_oddities 137 = .ok (.invokestatic 70, 3) := by decide +kernel
theorem kd_J_oddities_140 : decode kb_J_oddities 140 = .ok (.ifCond .eq 8, 3) := by decide +kernel
theorem kd_J_oddities_143 : decode kb_J_oddities 143 = .ok (.bipush 8, 2) := by decide +kernel
theorem kd_J_oddities_145 : decode kb_J_oddities 145 = .ok (.goto 4, 3) := by decide +kernel
theorem kd_J_oddities_148 : decode kb_J_oddities 148 = .ok (.iconst 0, 1) := by decide +kernel
theorem kd_J_oddities_149 : decode kb_J_oddities 149 = .ok (.iadd, 1) := by decide +kernel
theorem kd_J_oddities_150 : decode kb_J_oddities 150 = .ok (.ireturn, 1) := by decide +kernel
theorem kd_J_hasMarkTwice_0 : decode kb_J_hasMarkTwice 0 = .ok (.iconst 1, 1) := by decide +kernel
theorem kd_J_hasMarkTwice_1 : decode kb_J_hasMarkTwice 1 = .ok (.istore_n 1, 1) := by decide +kernel
theorem kd_J_hasMarkTwice_2 : decode kb_J_hasMarkTwice 2 = .ok (.iload_n 1, 1) := by decide +kernel
theorem kd_J_hasMarkTwice_3 : decode kb_J_hasMarkTwice 3 = .ok (.aload_n 0, 1) := by decide +kernel
theorem kd_J_hasMarkTwice_4 : decode kb_J_hasMarkTwice 4 = .ok (.invokevirtual 9, 3) := by decide +kernel
theorem kd_J_hasMarkTwice_7 : decode kb_J_hasMarkTwice 7 = .ok (.if_icmp .ge 37, 3) := by decide +kernel
theorem kd_J_hasMarkTwice_10 : decode kb_J_hasMarkTwice 10 = .ok (.aload_n 0, 1) := by decide +kernel
theorem kd_J_hasMarkTwice_11 : decode kb_J_hasMarkTwice 11 = .ok (.iload_n 1, 1) := by decide +kernel
theorem kd_J_hasMarkTwice_12 : decode kb_J_hasMarkTwice 12 = .ok (.invokevirtual 15, 3) := by decide +kernel
theorem kd_J_hasMarkTwice_15 : decode kb_J_hasMarkTwice 15 = .ok (.invokestatic 73, 3) := by decide +kernel
theorem kd_J_hasMarkTwice_18 : decode kb_J_hasMarkTwice 18 = .ok (.ifCond .eq 20, 3) := by decide +kernel
theorem kd_J_hasMarkTwice_21 : decode kb_J_hasMarkTwice 21 = .ok (.aload_n 0, 1) := by decide +kernel
theorem kd_J_hasMarkTwice_22 : decode kb_J_hasMarkTwice 22 = .ok (.iload_n 1, 1) := by decide +kernel
theorem kd_J_hasMarkTwice_23 : decode kb_J_hasMarkTwice 23 = .ok (.invokevirtual 15, 3) := by decide +kernel
theorem kd_J_hasMarkTwice_26 : decode kb_J_hasMarkTwice 26 = .ok (.aload_n 0, 1) := by decide +kernel
theorem kd_J_hasMarkTwice_27 : decode kb_J_hasMarkTwice 27 = .ok (.iload_n 1, 1) := by decide +kernel
theorem kd_J_hasMarkTwice_28 : decode kb_J_hasMarkTwice 28 = .ok (.iconst 1, 1) := by decide +kernel
theorem kd_J_hasMarkTwice_29 : decode kb_J_hasMarkTwice 29 = .ok (.isub, 1) := by decide +kernel
theorem kd_J_hasMarkTwice_30 : decode kb_J_hasMarkTwice 30 = .ok (.invokevirtual 15, 3) := by decide +kernel
theorem kd_J_hasMarkTwice_33 : decode kb_J_hasMarkTwice 33 = .ok (.if_icmp .ne 5, 3) := by decide +kernel
theorem kd_J_hasMarkTwice_36 : decode kb_J_hasMarkTwice 36 = .ok (.iconst 1, 1) := by decide +kernel
theorem kd_J_hasMarkTwice_37 : decode kb_J_hasMarkTwice 37 = .ok (.ireturn, 1) := by decide +kernel
theorem kd_J_hasMarkTwice_38 : decode kb_J_hasMarkTwice 38 = .ok (.iinc 1 1, 3) := by decide +kernel
theorem kd_J_hasMarkTwice_41 : decode kb_J_hasMarkTwice 41 = .ok (.goto (-39), 3) := by decide +kernel
theorem kd_J_hasMarkTwice_44 : decode kb_J_hasMarkTwice 44 = .ok (.iconst 0, 1) := by decide +kernel
theorem kd_J_hasMarkTwice_45 : decode kb_J_hasMarkTwice 45 = .ok (.ireturn, 1) := by decide +kernel
theorem kd_J_hasLooseMark_0 : decode kb_J_hasLooseMark 0 = .ok (.iconst 0, 1) := by decide +kernel
theorem kd_J_hasLooseMark_1 : decode kb_J_hasLooseMark 1 = .ok (.istore_n 1, 1) := by decide +kernel
theorem kd_J_hasLooseMark_2 : decode kb_J_hasLooseMark 2 = .ok (.iload_n 1, 1) := by decide +kernel
theorem kd_J_hasLooseMark_3 : decode kb_J_hasLooseMark 3 = .ok (.aload_n 0, 1) := by decide +kernel
theorem kd_J_hasLooseMark_4 : decode kb_J_hasLooseMark 4 = .ok (.invokevirtual 9, 3) := by decide +kernel
theorem kd_J_hasLooseMark_7 : decode kb_J_hasLooseMark 7 = .ok (.if_icmp .ge 44, 3) := by decide +kernel
theorem kd_J_hasLooseMark_10 : decode kb_J_hasLooseMark 10 = .ok (.aload_n 0, 1) := by decide +kernel
theorem kd_J_hasLooseMark_11 : decode kb_J_hasLooseMark 11 = .ok (.iload_n 1, 1) := by decide +kernel
theorem kd_J_hasLooseMark_12 : decode kb_J_hasLooseMark 12 = .ok (.iconst 1, 1) := by decide +kernel
theorem kd_J_hasLooseMark_13 : decode kb_J_hasLooseMark 13 = .ok (.isub, 1) := by decide +kernel
theorem kd_J_hasLooseMark_14 : decode kb_J_hasLooseMark 14 = .ok (.invokevirtual 15, 3) := by decide +kernel
theorem kd_J_hasLooseMark_17 : decode kb_J_hasLooseMark 17 = .ok (.istore_n 2, 1) := by decide +kernel
theorem kd_J_hasLooseMark_18 : decode kb_J_hasLooseMark 18 = .ok (.aload_n 0, 1) := by decide +kernel
theorem kd_J_hasLooseMark_19 : decode kb_J_hasLooseMark 19 = .ok (.iload_n 1, 1) := by decide +kernel
theorem kd_J_hasLooseMark_20 : decode kb_J_hasLooseMark 20 = .ok (.invokevirtual 15, 3) := by decide +kernel
theorem kd_J_hasLooseMark_23 : decode kb_J_hasLooseMark 23 = .ok (.invokestatic 73, 3) := by decide +kernel
theorem kd_J_hasLooseMark_26 : decode kb_J_hasLooseMark 26 = .ok (.ifCond .eq 19, 3) := by decide +kernel
theorem kd_J_hasLooseMark_29 : decode kb_J_hasLooseMark 29 = .ok (.iload_n 2, 1) := by decide +kernel
theorem kd_J_hasLooseMark_30 : decode kb_J_hasLooseMark 30 = .ok (.invokestatic 76, 3) := by decide +kernel
theorem kd_J_hasLooseMark_33 : decode kb_J_hasLooseMark 33 = .ok (.ifCond .ne 12, 3) := by decide +kernel
theorem kd_J_hasLooseMark_36 : decode kb_J_hasLooseMark 36 = .ok (.iload_n 2, 1) := by decide +kernel
theorem kd_J_hasLooseMark_37 : decode kb_J_hasLooseMark 37 = .ok (.invokestatic 73, 3) := by decide +kernel
theorem kd_J_hasLooseMark_40 : decode kb_J_hasLooseMark 40 = .ok (.ifCond .ne 5, 3) := by decide +kernel
theorem kd_J_hasLooseMark_43 : decode kb_J_hasLooseMark 43 = .ok (.iconst 1, 1) := by decide +kernel
theorem kd_J_hasLooseMark_44 : decode kb_J_hasLooseMark 44 = .ok (.ireturn, 1) := by decide +kernel
theorem kd_J_hasLooseMark_45 : decode kb_J_hasLooseMark 45 = .ok (.iinc 1 1, 3) := by decide +kernel
theorem kd_J_hasLooseMark_48 : decode kb_J_hasLooseMark 48 = .ok (.goto (-46), 3) := by decide +kernel
theorem kd_J_hasLooseMark_51 : decode kb_J_hasLooseMark 51 = .ok (.iconst 0, 1) := by decide +kernel
theorem kd_J_hasLooseMark_52 : decode kb_J_hasLooseMark 52 = .ok (.ireturn, 1) := by decide +kernel
theorem kh_J_commonSet : ky_J_commonSet.cls ≠ "java/lang/invoke/MethodHandle" ∧ ky_J_commonSet.cls ≠ "java/lang/invoke/VarHandle" ∧ (parseMethodDescriptor ky_J_commonSet.desc).map (fun d => d.parameters.length) = some 1 := by decide +kernel
theorem kh_J_strictness : ky_J_strictness.cls ≠ "java/lang/invoke/MethodHandle" ∧ ky_J_strictness.cls ≠ "java/lang/invoke/VarHandle" ∧ (parseMethodDescriptor ky_J_strictness.desc).map (fun d => d.parameters.length) = some 1 := by decide +kernel
theorem kh_J_hasForbidden : ky_J_hasForbidden.cls ≠ "java/lang/invoke/MethodHandle" ∧ ky_J_hasForbidden.cls ≠ "java/lang/invoke/VarHandle" ∧ (parseMethodDescriptor ky_J_hasForbidden.desc).map (fun d => d.parameters.length) = some 1 := by decide +kernel
theorem kh_J_isPlain : ky_J_isPlain.cls ≠ "java/lang/invoke/MethodHandle" ∧ ky_J_isPlain.cls ≠ "java/lang/invoke/VarHandle" ∧ (parseMethodDescriptor ky_J_isPlain.desc).map (fun d => d.parameters.length) = some 1 := by decide +kernel
theorem kh_J_isLatinWithMixedScript : ky_J_isLatinWithMixedScript.cls ≠ "java/lang/invoke/MethodHandle" ∧ ky_J_isLatinWithMixedScript.cls ≠ "java/lang/invoke/VarHandle" ∧ (parseMethodDescriptor ky_J_isLatinWithMixedScript.desc).map (fun d => d.parameters.length) = some 1 := by decide +kernel
theorem kh_J_eachIsLatinOr : ky_J_eachIsLatinOr.cls ≠ "java/lang/invoke/MethodHandle" ∧ ky_J_eachIsLatinOr.cls ≠ "java/lang/invoke/VarHandle" ∧ (parseMethodDescriptor ky_J_eachIsLatinOr.desc).map (fun d => d.parameters.length) = some 2 := by decide +kernel
theorem kh_J_isLatinWithOneScript : ky_J_isLatinWithOneScript.cls ≠ "java/lang/invoke/MethodHandle" ∧ ky_J_isLatinWithOneScript.cls ≠ "java/lang/invoke/VarHandle" ∧ (parseMethodDescriptor ky_J_isLatinWithOneScript.desc).map (fun d => d.parameters.length) = some 1 := by decide +kernel
theorem kh_J_oddities : ky_J_oddities.cls ≠ "java/lang/invoke/MethodHandle" ∧ ky_J_oddities.cls ≠ "java/lang/invoke/VarHandle" ∧ (parseMethodDescriptor ky_J_oddities.desc).map (fun d => d.parameters.length) = some 2 := by decide +kernel
theorem kh_J_hasMarkTwice : ky_J_hasMarkTwice.cls ≠ "java/lang/invoke/MethodHandle" ∧ ky_J_hasMarkTwice.cls ≠ "java/lang/invoke/VarHandle" ∧ (parseMethodDescriptor ky_J_hasMarkTwice.desc).map (fun d => d.parameters.length) = some 1 := by decide +kernel
theorem kh_J_hasLooseMark : ky_J_hasLooseMark.cls ≠ "java/lang/invoke/MethodHandle" ∧ ky_J_hasLooseMark.cls ≠ "java/lang/invoke/VarHandle" ∧ (parseMethodDescriptor ky_J_hasLooseMark.desc).map (fun d => d.parameters.length) = some 1 := by decide +kernel
