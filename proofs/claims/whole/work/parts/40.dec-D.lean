theorem kd_D_init_0 : decode kb_D_init 0 = .ok (.aload_n 0, 1) := by decide +kernel
theorem kd_D_init_1 : decode kb_D_init 1 = .ok (.invokespecial 3, 3) := by decide +kernel
theorem kd_D_init_4 : decode kb_D_init 4 = .ok (.aload_n 0, 1) := by decide +kernel
theorem kd_D_init_5 : decode kb_D_init 5 = .ok (.new 9, 3) := by decide +kernel
theorem kd_D_init_8 : decode kb_D_init 8 = .ok (.dup, 1) := by decide +kernel
theorem kd_D_init_9 : decode kb_D_init 9 = .ok (.invokespecial 11, 3) := by decide +kernel
theorem kd_D_init_12 : decode kb_D_init 12 = .ok (.putfield 12, 3) := by decide +kernel
theorem kd_D_init_15 : decode kb_D_init 15 = .ok (.aload_n 0, 1) := by decide +kernel
theorem kd_D_init_16 : decode kb_D_init 16 = .ok (.new 16, 3) := by decide +kernel
theorem kd_D_init_19 : decode kb_D_init 19 = .ok (.dup, 1) := by decide +kernel
theorem kd_D_init_20 : decode kb_D_init 20 = .ok (.invokespecial 18, 3) := by decide +kernel
theorem kd_D_init_23 : decode kb_D_init 23 = .ok (.putfield 19, 3) := by decide +kernel
theorem kd_D_init_26 : decode kb_D_init 26 = .ok (.aload_n 0, 1) := by decide +kernel
theorem kd_D_init_27 : decode kb_D_init 27 = .ok (.new 23, 3) := by decide +kernel
theorem kd_D_init_30 : decode kb_D_init 30 = .ok (.dup, 1) := by decide +kernel
theorem kd_D_init_31 : decode kb_D_init 31 = .ok (.invokespecial 25, 3) := by decide +kernel
theorem kd_D_init_34 : decode kb_D_init 34 = .ok (.putfield 26, 3) := by decide +kernel
theorem kd_D_init_37 : decode kb_D_init 37 = .ok (.aload_n 0, 1) := by decide +kernel
theorem kd_D_init_38 : decode kb_D_init 38 = .ok (.new 30, 3) := by decide +kernel
theorem kd_D_init_41 : decode kb_D_init 41 = .ok (.dup, 1) := by decide +kernel
theorem kd_D_init_42 : decode kb_D_init 42 = .ok (.bipush 96, 2) := by decide +kernel
theorem kd_D_init_44 : decode kb_D_init 44 = .ok (.invokespecial 32, 3) := by decide +kernel
theorem kd_D_init_47 : decode kb_D_init 47 = .ok (.putfield 35, 3) := by decide +kernel
theorem kd_D_init_50 : decode kb_D_init 50 = .ok (.aload_n 0, 1) := by decide +kernel
theorem kd_D_init_51 : decode kb_D_init 51 = .ok (.new 9, 3) := by decide +kernel
theorem kd_D_init_54 : decode kb_D_init 54 = .ok (.dup, 1) := by decide +kernel
theorem kd_D_init_55 : decode kb_D_init 55 = .ok (.invokespecial 11, 3) := by decide +kernel
theorem kd_D_init_58 : decode kb_D_init 58 = .ok (.putfield 39, 3) := by decide +kernel
theorem kd_D_init_61 : decode kb_D_init 61 = .ok (.aload_n 0, 1) := by decide +kernel
theorem kd_D_init_62 : decode kb_D_init 62 = .ok (.new 9, 3) := by decide +kernel
theorem kd_D_init_65 : decode kb_D_init 65 = .ok (.dup, 1) := by decide +kernel
theorem kd_D_init_66 : decode kb_D_init 66 = .ok (.invokespecial 11, 3) := by decide +kernel
theorem kd_D_init_69 : decode kb_D_init 69 = .ok (.putfield 42, 3) := by decide +kernel
theorem kd_D_init_72 : decode kb_D_init 72 = .ok (.return_, 1) := by decide +kernel
theorem kd_D_wipe_0 : decode kb_D_wipe 0 = .ok (.aload_n 0, 1) := by decide +kernel
theorem kd_D_wipe_1 : decode kb_D_wipe 1 = .ok (.getfield 12, 3) := by decide +kernel
theorem kd_D_wipe_4 : decode kb_D_wipe 4 = .ok (.invokevirtual 56, 3) := by decide +kernel
theorem kd_D_wipe_7 : decode kb_D_wipe 7 = .ok (.istore_n 1, 1) := by decide +kernel
theorem kd_D_wipe_8 : decode kb_D_wipe 8 = .ok (.aload_n 0, 1) := by decide +kernel
theorem kd_D_wipe_9 : decode kb_D_wipe 9 = .ok (.getfield 12, 3) := by decide +kernel
theorem kd_D_wipe_12 : decode kb_D_wipe 12 = .ok (.invokevirtual 76, 3) := by decide +kernel
theorem kd_D_wipe_15 : decode kb_D_wipe 15 = .ok (.iload_n 1, 1) := by decide +kernel
theorem kd_D_wipe_16 : decode kb_D_wipe 16 = .ok (.ireturn, 1) := by decide +kernel
theorem kd_D_skeleton_0 : decode kb_D_skeleton 0 = .ok (.aload_n 0, 1) := by decide +kernel
theorem kd_D_skeleton_1 : decode kb_D_skeleton 1 = .ok (.getfield 12, 3) := by decide +kernel
theorem kd_D_skeleton_4 : decode kb_D_skeleton 4 = .ok (.invokevirtual 79, 3) := by decide +kernel
theorem kd_D_skeleton_7 : decode kb_D_skeleton 7 = .ok (.invokevirtual 83, 3) := by decide +kernel
theorem kd_D_skeleton_10 : decode kb_D_skeleton 10 = .ok (.ireturn, 1) := by decide +kernel
theorem kd_D_skeletonAt_0 : decode kb_D_skeletonAt 0 = .ok (.aload_n 0, 1) := by decide +kernel
theorem kd_D_skeletonAt_1 : decode kb_D_skeletonAt 1 = .ok (.getfield 12, 3) := by decide +kernel
theorem kd_D_skeletonAt_4 : decode kb_D_skeletonAt 4 = .ok (.invokevirtual 79, 3) := by decide +kernel
theorem kd_D_skeletonAt_7 : decode kb_D_skeletonAt 7 = .ok (.iload_n 1, 1) := by decide +kernel
theorem kd_D_skeletonAt_8 : decode kb_D_skeletonAt 8 = .ok (.invokevirtual 84, 3) := by decide +kernel
theorem kd_D_skeletonAt_11 : decode kb_D_skeletonAt 11 = .ok (.ireturn, 1) := by decide +kernel
theorem kd_D_scripts_0 : decode kb_D_scripts 0 = .ok (.aload_n 0, 1) := by decide +kernel
theorem kd_D_scripts_1 : decode kb_D_scripts 1 = .ok (.getfield 12, 3) := by decide +kernel
theorem kd_D_scripts_4 : decode kb_D_scripts 4 = .ok (.invokevirtual 88, 3) := by decide +kernel
theorem kd_D_scripts_7 : decode kb_D_scripts 7 = .ok (.invokestatic 91, 3) := by decide +kernel
theorem kd_D_scripts_10 : decode kb_D_scripts 10 = .ok (.ireturn, 1) := by decide +kernel
theorem kd_D_level_0 : decode kb_D_level 0 = .ok (.aload_n 0, 1) := by decide +kernel
theorem kd_D_level_1 : decode kb_D_level 1 = .ok (.getfield 12, 3) := by decide +kernel
theorem kd_D_level_4 : decode kb_D_level 4 = .ok (.invokevirtual 88, 3) := by decide +kernel
theorem kd_D_level_7 : decode kb_D_level 7 = .ok (.invokestatic 97, 3) := by decide +kernel
theorem kd_D_level_10 : decode kb_D_level 10 = .ok (.ireturn, 1) := by decide +kernel
theorem kd_D_odd_0 : decode kb_D_odd 0 = .ok (.aload_n 0, 1) := by decide +kernel
theorem kd_D_odd_1 : decode kb_D_odd 1 = .ok (.getfield 12, 3) := by decide +kernel
theorem kd_D_odd_4 : decode kb_D_odd 4 = .ok (.invokevirtual 88, 3) := by decide +kernel
theorem kd_D_odd_7 : decode kb_D_odd 7 = .ok (.aload_n 0, 1) := by decide +kernel
theorem kd_D_odd_8 : decode kb_D_odd 8 = .ok (.getfield 35, 3) := by decide +kernel
theorem kd_D_odd_11 : decode kb_D_odd 11 = .ok (.invokestatic 100, 3) := by decide +kernel
theorem kd_D_odd_14 : decode kb_D_odd 14 = .ok (.ireturn, 1) := by decide +kernel
theorem kd_D_words_0 : decode kb_D_words 0 = .ok (.aload_n 0, 1) := by decide +kernel
theorem kd_D_words_1 : decode kb_D_words 1 = .ok (.getfield 26, 3) := by decide +kernel
theorem kd_D_words_4 : decode kb_D_words 4 = .ok (.aload_n 0, 1) := by decide +kernel
theorem kd_D_words_5 : decode kb_D_words 5 = .ok (.getfield 12, 3) := by decide +kernel
theorem kd_D_words_8 : decode kb_D_words 8 = .ok (.invokevirtual 88, 3) := by decide +kernel
theorem kd_D_words_11 : decode kb_D_words 11 = .ok (.invokevirtual 104, 3) := by decide +kernel
theorem kd_D_words_14 : decode kb_D_words 14 = .ok (.aload_n 0, 1) := by decide +kernel
theorem kd_D_words_15 : decode kb_D_words 15 = .ok (.getfield 26, 3) := by decide +kernel
theorem kd_D_words_18 : decode kb_D_words 18 = .ok (.invokevirtual 107, 3) := by decide +kernel
theorem kd_D_words_21 : decode kb_D_words 21 = .ok (.ireturn, 1) := by decide +kernel
theorem kd_D_lookalike_0 : decode kb_D_lookalike 0 = .ok (.aload_n 0, 1) := by decide +kernel
theorem kd_D_lookalike_1 : decode kb_D_lookalike 1 = .ok (.getfield 19, 3) := by decide +kernel
theorem kd_D_lookalike_4 : decode kb_D_lookalike 4 = .ok (.aload_n 0, 1) := by decide +kernel
theorem kd_D_lookalike_5 : decode kb_D_lookalike 5 = .ok (.getfield 12, 3) := by decide +kernel
theorem kd_D_lookalike_8 : decode kb_D_lookalike 8 = .ok (.iload_n 1, 1) := by decide +kernel
theorem kd_D_lookalike_9 : decode kb_D_lookalike 9 = .ok (.invokevirtual 125, 3) := by decide +kernel
theorem kd_D_lookalike_12 : decode kb_D_lookalike 12 = .ok (.ireturn, 1) := by decide +kernel
theorem kd_D_type_0 : decode kb_D_type 0 = .ok (.iload_n 3, 1) := by decide +kernel
theorem kd_D_type_1 : decode kb_D_type 1 = .ok (.iconst 1, 1) := by decide +kernel
theorem kd_D_type_2 : decode kb_D_type 2 = .ok (.if_icmp .lt 17, 3) := by decide +kernel
theorem kd_D_type_5 : decode kb_D_type 5 = .ok (.iload_n 3, 1) := by decide +kernel
theorem kd_D_type_6 : decode kb_D_type 6 = .ok (.bipush 8, 2) := by decide +kernel
theorem kd_D_type_8 : decode kb_D_type 8 = .ok (.if_icmp .gt 11, 3) := by decide +kernel
theorem kd_D_type_11 : decode kb_D_type 11 = .ok (.lload_n 1, 1) := by decide +kernel
theorem kd_D_type_12 : decode kb_D_type 12 = .ok (.iload_n 3, 1) := by decide +kernel
theorem kd_D_type_13 : decode kb_D_type 13 = .ok (.invokestatic 45, 3) := by decide +kernel
theorem kd_D_type_16 : decode kb_D_type 16 = .ok (.ifCond .ne 13, 3) := by decide +kernel
theorem kd_D_type_19 : decode kb_D_type 19 = .ok (.new 49, 3) := by decide +kernel
theorem kd_D_type_22 : decode kb_D_type 22 = .ok (.dup, 1) := by decide +kernel
theorem kd_D_type_23 : decode kb_D_type 23 = .ok (.ldc 51, 2) := by decide +kernel
theorem kd_D_type_25 : decode kb_D_type 25 = .ok (.invokespecial 53, 3) := by decide +kernel
theorem kd_D_type_28 : decode kb_D_type 28 = .ok (.athrow, 1) := by decide +kernel
theorem kd_D_type_29 : decode kb_D_type 29 = .ok (.aload_n 0, 1) := by decide +kernel
theorem kd_D_type_30 : decode kb_D_type 30 = .ok (.getfield 12, 3) := by decide +kernel
theorem kd_D_type_33 : decode kb_D_type 33 = .ok (.invokevirtual 56, 3) := by decide +kernel
theorem kd_D_type_36 : decode kb_D_type 36 = .ok (.iload_n 3, 1) := by decide +kernel
theorem kd_D_type_37 : decode kb_D_type 37 = .ok (.iadd, 1) := by decide +kernel
theorem kd_D_type_38 : decode kb_D_type 38 = .ok (.bipush 48, 2) := by decide +kernel
theorem kd_D_type_40 : decode kb_D_type 40 = .ok (.if_icmp .le 13, 3) := by decide +kernel
theorem kd_D_type_43 : decode kb_D_type 43 = .ok (.new 60, 3) := by decide +kernel
theorem kd_D_type_46 : decode kb_D_type 46 = .ok (.dup, 1) := by decide +kernel
theorem kd_D_type_47 : decode kb_D_type 47 = .ok (.ldc 62, 2) := by decide +kernel
theorem kd_D_type_49 : decode kb_D_type 49 = .ok (.invokespecial 64, 3) := by decide +kernel
theorem kd_D_type_52 : decode kb_D_type 52 = .ok (.athrow, 1) := by decide +kernel
theorem kd_D_type_53 : decode kb_D_type 53 = .ok (.iload_n 3, 1) := by decide +kernel
theorem kd_D_type_54 : decode kb_D_type 54 = .ok (.iconst 1, 1) := by decide +kernel
theorem kd_D_type_55 : decode kb_D_type 55 = .ok (.isub, 1) := by decide +kernel
theorem kd_D_type_56 : decode kb_D_type 56 = .ok (.istore 4, 2) := by decide +kernel
theorem kd_D_type_58 : decode kb_D_type 58 = .ok (.iload 4, 2) := by decide +kernel
theorem kd_D_type_60 : decode kb_D_type 60 = .ok (.ifCond .lt 22, 3) := by decide +kernel
theorem kd_D_type_63 : decode kb_D_type 63 = .ok (.aload_n 0, 1) := by decide +kernel
theorem kd_D_type_64 : decode kb_D_type 64 = .ok (.getfield 12, 3) := by decide +kernel
theorem kd_D_type_67 : decode kb_D_type 67 = .ok (.lload_n 1, 1) := by decide +kernel
theorem kd_D_type_68 : decode kb_D_type 68 = .ok (.iload 4, 2) := by decide +kernel
theorem kd_D_type_70 : decode kb_D_type 70 = .ok (.invokestatic 65, 3) := by decide +kernel
theorem kd_D_type_73 : decode kb_D_type 73 = .ok (.invokevirtual 69, 3) := by decide +kernel
theorem kd_D_type_76 : decode kb_D_type 76 = .ok (.iinc 4 (-1), 3) := by decide +kernel
theorem kd_D_type_79 : decode kb_D_type 79 = .ok (.goto (-21), 3) := by decide +kernel
theorem kd_D_type_82 : decode kb_D_type 82 = .ok (.aload_n 0, 1) := by decide +kernel
theorem kd_D_type_83 : decode kb_D_type 83 = .ok (.getfield 12, 3) := by decide +kernel
theorem kd_D_type_86 : decode kb_D_type 86 = .ok (.aload_n 0, 1) := by decide +kernel
theorem kd_D_type_87 : decode kb_D_type 87 = .ok (.getfield 35, 3) := by decide +kernel
theorem kd_D_type_90 : decode kb_D_type 90 = .ok (.invokevirtual 72, 3) := by decide +kernel
theorem kd_D_type_93 : decode kb_D_type 93 = .ok (.aload_n 0, 1) := by decide +kernel
theorem kd_D_type_94 : decode kb_D_type 94 = .ok (.getfield 12, 3) := by decide +kernel
theorem kd_D_type_97 : decode kb_D_type 97 = .ok (.invokevirtual 56, 3) := by decide +kernel
theorem kd_D_type_100 : decode kb_D_type 100 = .ok (.ireturn, 1) := by decide +kernel
theorem kd_D_areCharacters_0 : decode kb_D_areCharacters 0 = .ok (.iconst 0, 1) := by decide +kernel
theorem kd_D_areCharacters_1 : decode kb_D_areCharacters 1 = .ok (.istore_n 3, 1) := by decide +kernel
theorem kd_D_areCharacters_2 : decode kb_D_areCharacters 2 = .ok (.iload_n 3, 1) := by decide +kernel
theorem kd_D_areCharacters_3 : decode kb_D_areCharacters 3 = .ok (.iload_n 2, 1) := by decide +kernel
theorem kd_D_areCharacters_4 : decode kb_D_areCharacters 4 = .ok (.if_icmp .ge 21, 3) := by decide +kernel
theorem kd_D_areCharacters_7 : decode kb_D_areCharacters 7 = .ok (.lload_n 0, 1) := by decide +kernel
theorem kd_D_areCharacters_8 : decode kb_D_areCharacters 8 = .ok (.iload_n 3, 1) := by decide +kernel
theorem kd_D_areCharacters_9 : decode kb_D_areCharacters 9 = .ok (.invokestatic 65, 3) := by decide +kernel
theorem kd_D_areCharacters_12 : decode kb_D_areCharacters 12 = .ok (.bipush 127, 2) := by decide +kernel
theorem kd_D_areCharacters_14 : decode kb_D_areCharacters 14 = .ok (.if_icmp .le 5, 3) := by decide +kernel
theorem kd_D_areCharacters_17 : decode kb_D_areCharacters 17 = .ok (.iconst 0, 1) := by decide +kernel
theorem kd_D_areCharacters_18 : decode kb_D_areCharacters 18 = .ok (.ireturn, 1) := by decide +kernel
theorem kd_D_areCharacters_19 : decode kb_D_areCharacters 19 = .ok (.iinc 3 1, 3) := by decide +kernel
theorem kd_D_areCharacters_22 : decode kb_D_areCharacters 22 = .ok (.goto (-20), 3) := by decide +kernel
theorem kd_D_areCharacters_25 : decode kb_D_areCharacters 25 = .ok (.iconst 1, 1) := by decide +kernel
theorem kd_D_areCharacters_26 : decode kb_D_areCharacters 26 = .ok (.ireturn, 1) := by decide +kernel
theorem kd_D_byteOf_0 : decode kb_D_byteOf 0 = .ok (.lload_n 0, 1) := by decide +kernel
theorem kd_D_byteOf_1 : decode kb_D_byteOf 1 = .ok (.bipush 8, 2) := by decide +kernel
theorem kd_D_byteOf_3 : decode kb_D_byteOf 3 = .ok (.iload_n 2, 1) := by decide +kernel
theorem kd_D_byteOf_4 : decode kb_D_byteOf 4 = .ok (.imul, 1) := by decide +kernel
theorem kd_D_byteOf_5 : decode kb_D_byteOf 5 = .ok (.lushr, 1) := by decide +kernel
theorem kd_D_byteOf_6 : decode kb_D_byteOf 6 = .ok (.l2i, 1) := by decide +kernel
theorem kd_D_byteOf_7 : decode kb_D_byteOf 7 = .ok (.sipush 255, 3) := by decide +kernel
theorem kd_D_byteOf_10 : decode kb_D_byteOf 10 = .ok (.iand, 1) := by decide +kernel
theorem kd_D_byteOf_11 : decode kb_D_byteOf 11 = .ok (.ireturn, 1) := by decide +kernel
theorem kd_D_word_0 : decode kb_D_word 0 = .ok (.aload_n 0, 1) := by decide +kernel
theorem kd_D_word_1 : decode kb_D_word 1 = .ok (.getfield 26, 3) := by decide +kernel
theorem kd_D_word_4 : decode kb_D_word 4 = .ok (.aload_n 0, 1) := by decide +kernel
theorem kd_D_word_5 : decode kb_D_word 5 = .ok (.getfield 12, 3) := by decide +kernel
theorem kd_D_word_8 : decode kb_D_word 8 = .ok (.invokevirtual 88, 3) := by decide +kernel
theorem kd_D_word_11 : decode kb_D_word 11 = .ok (.invokevirtual 104, 3) := by decide +kernel
theorem kd_D_word_14 : decode kb_D_word 14 = .ok (.iload_n 1, 1) := by decide +kernel
theorem kd_D_word_15 : decode kb_D_word 15 = .ok (.ifCond .lt 14, 3) := by decide +kernel
theorem kd_D_word_18 : decode kb_D_word 18 = .ok (.iload_n 1, 1) := by decide +kernel
theorem kd_D_word_19 : decode kb_D_word 19 = .ok (.aload_n 0, 1) := by decide +kernel
theorem kd_D_word_20 : decode kb_D_word 20 = .ok (.getfield 26, 3) := by decide +kernel
theorem kd_D_word_23 : decode kb_D_word 23 = .ok (.invokevirtual 107, 3) := by decide +kernel
theorem kd_D_word_26 : decode kb_D_word 26 = .ok (.if_icmp .lt 13, 3) := by decide +kernel
theorem kd_D_word_29 : decode kb_D_word 29 = .ok (.new 49, 3) := by decide +kernel
theorem kd_D_word_32 : decode kb_D_word 32 = .ok (.dup, 1) := by decide +kernel
theorem kd_D_word_33 : decode kb_D_word 33 = .ok (.ldc 110, 2) := by decide +kernel
theorem kd_D_word_35 : decode kb_D_word 35 = .ok (.invokespecial 53, 3) := by decide +kernel
theorem kd_D_word_38 : decode kb_D_word 38 = .ok (.athrow, 1) := by decide +kernel
theorem kd_D_word_39 : decode kb_D_word 39 = .ok (.iload_n 2, 1) := by decide +kernel
theorem kd_D_word_40 : decode kb_D_word 40 = .ok (.tableswitch 87 0 3 #[32, 41, 59, 65], 32) := by decide +kernel
theorem kd_D_word_72 : decode kb_D_word 72 = .ok (.aload_n 0, 1) := by decide +kernel
theorem kd_D_word_73 : decode kb_D_word 73 = .ok (.getfield 26, 3) := by decide +kernel
theorem kd_D_word_76 : decode kb_D_word 76 = .ok (.iload_n 1, 1) := by decide +kernel
theorem kd_D_word_77 : decode kb_D_word 77 = .ok (.invokevirtual 112, 3) := by decide +kernel
theorem kd_D_word_80 : decode kb_D_word 80 = .ok (.ireturn, 1) := by decide +kernel
theorem kd_D_word_81 : decode kb_D_word 81 = .ok (.aload_n 0, 1) := by decide +kernel
theorem kd_D_word_82 : decode kb_D_word 82 = .ok (.getfield 26, 3) := by decide +kernel
theorem kd_D_word_85 : decode kb_D_word 85 = .ok (.iload_n 1, 1) := by decide +kernel
theorem kd_D_word_86 : decode kb_D_word 86 = .ok (.invokevirtual 115, 3) := by decide +kernel
theorem kd_D_word_89 : decode kb_D_word 89 = .ok (.aload_n 0, 1) := by decide +kernel
theorem kd_D_word_90 : decode kb_D_word 90 = .ok (.getfield 26, 3) := by decide +kernel
theorem kd_D_word_93 : decode kb_D_word 93 = .ok (.iload_n 1, 1) := by decide +kernel
theorem kd_D_word_94 : decode kb_D_word 94 = .ok (.invokevirtual 112, 3) := by decide +kernel
theorem kd_D_word_97 : decode kb_D_word 97 = .ok (.isub, 1) := by decide +kernel
theorem kd_D_word_98 : decode kb_D_word 98 = .ok (.ireturn, 1) := by decide +kernel
theorem kd_D_word_99 : decode kb_D_word 99 = .ok (.aload_n 0, 1) := by decide +kernel
theorem kd_D_word_100 : decode kb_D_word 100 = .ok (.iload_n 1, 1) := by decide +kernel
theorem kd_D_word_101 : decode kb_D_word 101 = .ok (.invokevirtual 118, 3) := by decide +kernel
theorem kd_D_word_104 : decode kb_D_word 104 = .ok (.ireturn, 1) := by decide +kernel
theorem kd_D_word_105 : decode kb_D_word 105 = .ok (.aload_n 0, 1) := by decide +kernel
theorem kd_D_word_106 : decode kb_D_word 106 = .ok (.iload_n 1, 1) := by decide +kernel
theorem kd_D_word_107 : decode kb_D_word 107 = .ok (.aload_n 0, 1) := by decide +kernel
theorem kd_D_word_108 : decode kb_D_word 108 = .ok (.getfield 39, 3) := by decide +kernel
theorem kd_D_word_111 : decode kb_D_word 111 = .ok (.invokevirtual 121, 3) := by decide +kernel
theorem kd_D_word_114 : decode kb_D_word 114 = .ok (.aload_n 0, 1) := by decide +kernel
theorem kd_D_word_115 : decode kb_D_word 115 = .ok (.getfield 19, 3) := by decide +kernel
theorem kd_D_word_118 : decode kb_D_word 118 = .ok (.aload_n 0, 1) := by decide +kernel
theorem kd_D_word_119 : decode kb_D_word 119 = .ok (.getfield 39, 3) := by decide +kernel
theorem kd_D_word_122 : decode kb_D_word 122 = .ok (.iconst 0, 1) := by decide +kernel
theorem kd_D_word_123 : decode kb_D_word 123 = .ok (.invokevirtual 125, 3) := by decide +kernel
theorem kd_D_word_126 : decode kb_D_word 126 = .ok (.ireturn, 1) := by decide +kernel
theorem kd_D_word_127 : decode kb_D_word 127 = .ok (.new 49, 3) := by decide +kernel
theorem kd_D_word_130 : decode kb_D_word 130 = .ok (.dup, 1) := by decide +kernel
theorem kd_D_word_131 : decode kb_D_word 131 = .ok (.ldc 129, 2) := by decide +kernel
theorem kd_D_word_133 : decode kb_D_word 133 = .ok (.invokespecial 53, 3) := by decide +kernel
theorem kd_D_word_136 : decode kb_D_word 136 = .ok (.athrow, 1) := by decide +kernel
theorem kd_D_firstWordLike_0 : decode kb_D_firstWordLike 0 = .ok (.aload_n 0, 1) := by decide +kernel
theorem kd_D_firstWordLike_1 : decode kb_D_firstWordLike 1 = .ok (.iload_n 1, 1) := by decide +kernel
theorem kd_D_firstWordLike_2 : decode kb_D_firstWordLike 2 = .ok (.aload_n 0, 1) := by decide +kernel
theorem kd_D_firstWordLike_3 : decode kb_D_firstWordLike 3 = .ok (.getfield 39, 3) := by decide +kernel
theorem kd_D_firstWordLike_6 : decode kb_D_firstWordLike 6 = .ok (.invokevirtual 121, 3) := by decide +kernel
theorem kd_D_firstWordLike_9 : decode kb_D_firstWordLike 9 = .ok (.iconst 0, 1) := by decide +kernel
theorem kd_D_firstWordLike_10 : decode kb_D_firstWordLike 10 = .ok (.istore_n 2, 1) := by decide +kernel
theorem kd_D_firstWordLike_11 : decode kb_D_firstWordLike 11 = .ok (.iload_n 2, 1) := by decide +kernel
theorem kd_D_firstWordLike_12 : decode kb_D_firstWordLike 12 = .ok (.iload_n 1, 1) := by decide +kernel
theorem kd_D_firstWordLike_13 : decode kb_D_firstWordLike 13 = .ok (.if_icmp .ge 34, 3) := by decide +kernel
theorem kd_D_firstWordLike_16 : decode kb_D_firstWordLike 16 = .ok (.aload_n 0, 1) := by decide +kernel
theorem kd_D_firstWordLike_17 : decode kb_D_firstWordLike 17 = .ok (.iload_n 2, 1) := by decide +kernel
theorem kd_D_firstWordLike_18 : decode kb_D_firstWordLike 18 = .ok (.aload_n 0, 1) := by decide +kernel
theorem kd_D_firstWordLike_19 : decode kb_D_firstWordLike 19 = .ok (.getfield 42, 3) := by decide +kernel
theorem kd_D_firstWordLike_22 : decode kb_D_firstWordLike 22 = .ok (.invokevirtual 121, 3) := by decide +kernel
theorem kd_D_firstWordLike_25 : decode kb_D_firstWordLike 25 = .ok (.aload_n 0, 1) := by decide +kernel
theorem kd_D_firstWordLike_26 : decode kb_D_firstWordLike 26 = .ok (.getfield 39, 3) := by decide +kernel
theorem kd_D_firstWordLike_29 : decode kb_D_firstWordLike 29 = .ok (.aload_n 0, 1) := by decide +kernel
theorem kd_D_firstWordLike_30 : decode kb_D_firstWordLike 30 = .ok (.getfield 42, 3) := by decide +kernel
theorem kd_D_firstWordLike_33 : decode kb_D_firstWordLike 33 = .ok (.invokevirtual 182, 3) := by decide +kernel
theorem kd_D_firstWordLike_36 : decode kb_D_firstWordLike 36 = .ok (.ifCond .eq 5, 3) := by decide +kernel
theorem kd_D_firstWordLike_39 : decode kb_D_firstWordLike 39 = .ok (.iload_n 2, 1) := by decide +kernel
theorem kd_D_firstWordLike_40 : decode kb_D_firstWordLike 40 = .ok (.ireturn, 1) := by decide +kernel
theorem kd_D_firstWordLike_41 : decode kb_D_firstWordLike 41 = .ok (.iinc 2 1, 3) := by decide +kernel
theorem kd_D_firstWordLike_44 : decode kb_D_firstWordLike 44 = .ok (.goto (-33), 3) := by decide +kernel
theorem kd_D_firstWordLike_47 : decode kb_D_firstWordLike 47 = .ok (.iconst (-1), 1) := by decide +kernel
theorem kd_D_firstWordLike_48 : decode kb_D_firstWordLike 48 = .ok (.ireturn, 1) := by decide +kernel
theorem kd_D_copyWord_0 : decode kb_D_copyWord 0 = .ok (.aload_n 2, 1) := by decide +kernel
theorem kd_D_copyWord_1 : decode kb_D_copyWord 1 = .ok (.invokevirtual 76, 3) := by decide +kernel
theorem kd_D_copyWord_4 : decode kb_D_copyWord 4 = .ok (.aload_n 0, 1) := by decide +kernel
theorem kd_D_copyWord_5 : decode kb_D_copyWord 5 = .ok (.getfield 26, 3) := by decide +kernel
theorem kd_D_copyWord_8 : decode kb_D_copyWord 8 = .ok (.iload_n 1, 1) := by decide +kernel
theorem kd_D_copyWord_9 : decode kb_D_copyWord 9 = .ok (.invokevirtual 112, 3) := by decide +kernel
theorem kd_D_copyWord_12 : decode kb_D_copyWord 12 = .ok (.istore_n 3, 1) := by decide +kernel
theorem kd_D_copyWord_13 : decode kb_D_copyWord 13 = .ok (.iload_n 3, 1) := by decide +kernel
theorem kd_D_copyWord_14 : decode kb_D_copyWord 14 = .ok (.aload_n 0, 1) := by decide +kernel
theorem kd_D_copyWord_15 : decode kb_D_copyWord 15 = .ok (.getfield 26, 3) := by decide +kernel
theorem kd_D_copyWord_18 : decode kb_D_copyWord 18 = .ok (.iload_n 1, 1) := by decide +kernel
theorem kd_D_copyWord_19 : decode kb_D_copyWord 19 = .ok (.invokevirtual 115, 3) := by decide +kernel
theorem kd_D_copyWord_22 : decode kb_D_copyWord 22 = .ok (.if_icmp .ge 24, 3) := by decide +kernel
theorem kd_D_copyWord_25 : decode kb_D_copyWord 25 = .ok (.aload_n 2, 1) := by decide +kernel
theorem kd_D_copyWord_26 : decode kb_D_copyWord 26 = .ok (.aload_n 0, 1) := by decide +kernel
theorem kd_D_copyWord_27 : decode kb_D_copyWord 27 = .ok (.getfield 12, 3) := by decide +kernel
theorem kd_D_copyWord_30 : decode kb_D_copyWord 30 = .ok (.invokevirtual 88, 3) := by decide +kernel
theorem kd_D_copyWord_33 : decode kb_D_copyWord 33 = .ok (.iload_n 3, 1) := by decide +kernel
theorem kd_D_copyWord_34 : decode kb_D_copyWord 34 = .ok (.invokevirtual 84, 3) := by decide +kernel
theorem kd_D_copyWord_37 : decode kb_D_copyWord 37 = .ok (.invokevirtual 69, 3) := by decide +kernel
theorem kd_D_copyWord_40 : decode kb_D_copyWord 40 = .ok (.iinc 3 1, 3) := by decide +kernel
theorem kd_D_copyWord_43 : decode kb_D_copyWord 43 = .ok (.goto (-30), 3) := by decide +kernel
theorem kd_D_copyWord_46 : decode kb_D_copyWord 46 = .ok (.aload_n 2, 1) := by decide +kernel
theorem kd_D_copyWord_47 : decode kb_D_copyWord 47 = .ok (.aload_n 0, 1) := by decide +kernel
theorem kd_D_copyWord_48 : decode kb_D_copyWord 48 = .ok (.getfield 35, 3) := by decide +kernel
theorem kd_D_copyWord_51 : decode kb_D_copyWord 51 = .ok (.invokevirtual 72, 3) := by decide +kernel
theorem kd_D_copyWord_54 : decode kb_D_copyWord 54 = .ok (.return_, 1) := by decide +kernel
theorem kd_D_register_0 : decode kb_D_register 0 = .ok (.aload_n 0, 1) := by decide +kernel
theorem kd_D_register_1 : decode kb_D_register 1 = .ok (.getfield 12, 3) := by decide +kernel
theorem kd_D_register_4 : decode kb_D_register 4 = .ok (.invokevirtual 88, 3) := by decide +kernel
theorem kd_D_register_7 : decode kb_D_register 7 = .ok (.invokestatic 131, 3) := by decide +kernel
theorem kd_D_register_10 : decode kb_D_register 10 = .ok (.ifCond .ne 13, 3) := by decide +kernel
theorem kd_D_register_13 : decode kb_D_register 13 = .ok (.new 49, 3) := by decide +kernel
theorem kd_D_register_16 : decode kb_D_register 16 = .ok (.dup, 1) := by decide +kernel
theorem kd_D_register_17 : decode kb_D_register 17 = .ok (.ldc 135, 2) := by decide +kernel
theorem kd_D_register_19 : decode kb_D_register 19 = .ok (.invokespecial 53, 3) := by decide +kernel
theorem kd_D_register_22 : decode kb_D_register 22 = .ok (.athrow, 1) := by decide +kernel
theorem kd_D_register_23 : decode kb_D_register 23 = .ok (.aload_n 0, 1) := by decide +kernel
theorem kd_D_register_24 : decode kb_D_register 24 = .ok (.getfield 19, 3) := by decide +kernel
theorem kd_D_register_27 : decode kb_D_register 27 = .ok (.invokevirtual 137, 3) := by decide +kernel
theorem kd_D_register_30 : decode kb_D_register 30 = .ok (.ifCond .ne 17, 3) := by decide +kernel
theorem kd_D_register_33 : decode kb_D_register 33 = .ok (.aload_n 0, 1) := by decide +kernel
theorem kd_D_register_34 : decode kb_D_register 34 = .ok (.getfield 19, 3) := by decide +kernel
theorem kd_D_register_37 : decode kb_D_register 37 = .ok (.aload_n 0, 1) := by decide +kernel
theorem kd_D_register_38 : decode kb_D_register 38 = .ok (.getfield 12, 3) := by decide +kernel
theorem kd_D_register_41 : decode kb_D_register 41 = .ok (.invokevirtual 141, 3) := by decide +kernel
theorem kd_D_register_44 : decode kb_D_register 44 = .ok (.ifCond .eq 13, 3) := by decide +kernel
theorem kd_D_register_47 : decode kb_D_register 47 = .ok (.new 60, 3) := by decide +kernel
theorem kd_D_register_50 : decode kb_D_register 50 = .ok (.dup, 1) := by decide +kernel
theorem kd_D_register_51 : decode kb_D_register 51 = .ok (.ldc 145, 2) := by decide +kernel
theorem kd_D_register_53 : decode kb_D_register 53 = .ok (.invokespecial 64, 3) := by decide +kernel
theorem kd_D_register_56 : decode kb_D_register 56 = .ok (.athrow, 1) := by decide +kernel
theorem kd_D_register_57 : decode kb_D_register 57 = .ok (.aload_n 0, 1) := by decide +kernel
theorem kd_D_register_58 : decode kb_D_register 58 = .ok (.getfield 19, 3) := by decide +kernel
theorem kd_D_register_61 : decode kb_D_register 61 = .ok (.aload_n 0, 1) := by decide +kernel
theorem kd_D_register_62 : decode kb_D_register 62 = .ok (.getfield 12, 3) := by decide +kernel
theorem kd_D_register_65 : decode kb_D_register 65 = .ok (.invokevirtual 147, 3) := by decide +kernel
theorem kd_D_register_68 : decode kb_D_register 68 = .ok (.aload_n 0, 1) := by decide +kernel
theorem kd_D_register_69 : decode kb_D_register 69 = .ok (.getfield 19, 3) := by decide +kernel
theorem kd_D_register_72 : decode kb_D_register 72 = .ok (.invokevirtual 151, 3) := by decide +kernel
theorem kd_D_register_75 : decode kb_D_register 75 = .ok (.ireturn, 1) := by decide +kernel
theorem kd_D_withdraw_0 : decode kb_D_withdraw 0 = .ok (.aload_n 0, 1) := by decide +kernel
theorem kd_D_withdraw_1 : decode kb_D_withdraw 1 = .ok (.getfield 19, 3) := by decide +kernel
theorem kd_D_withdraw_4 : decode kb_D_withdraw 4 = .ok (.iload_n 1, 1) := by decide +kernel
theorem kd_D_withdraw_5 : decode kb_D_withdraw 5 = .ok (.invokevirtual 152, 3) := by decide +kernel
theorem kd_D_withdraw_8 : decode kb_D_withdraw 8 = .ok (.ifCond .ne 13, 3) := by decide +kernel
theorem kd_D_withdraw_11 : decode kb_D_withdraw 11 = .ok (.new 156, 3) := by decide +kernel
theorem kd_D_withdraw_14 : decode kb_D_withdraw 14 = .ok (.dup, 1) := by decide +kernel
theorem kd_D_withdraw_15 : decode kb_D_withdraw 15 = .ok (.ldc 158, 2) := by decide +kernel
theorem kd_D_withdraw_17 : decode kb_D_withdraw 17 = .ok (.invokespecial 160, 3) := by decide +kernel
theorem kd_D_withdraw_20 : decode kb_D_withdraw 20 = .ok (.athrow, 1) := by decide +kernel
theorem kd_D_withdraw_21 : decode kb_D_withdraw 21 = .ok (.aload_n 0, 1) := by decide +kernel
theorem kd_D_withdraw_22 : decode kb_D_withdraw 22 = .ok (.getfield 19, 3) := by decide +kernel
theorem kd_D_withdraw_25 : decode kb_D_withdraw 25 = .ok (.iload_n 1, 1) := by decide +kernel
theorem kd_D_withdraw_26 : decode kb_D_withdraw 26 = .ok (.invokevirtual 161, 3) := by decide +kernel
theorem kd_D_withdraw_29 : decode kb_D_withdraw 29 = .ok (.aload_n 0, 1) := by decide +kernel
theorem kd_D_withdraw_30 : decode kb_D_withdraw 30 = .ok (.getfield 19, 3) := by decide +kernel
theorem kd_D_withdraw_33 : decode kb_D_withdraw 33 = .ok (.invokevirtual 151, 3) := by decide +kernel
theorem kd_D_withdraw_36 : decode kb_D_withdraw 36 = .ok (.ireturn, 1) := by decide +kernel
theorem kd_D_ranked_0 : decode kb_D_ranked 0 = .ok (.aload_n 0, 1) := by decide +kernel
theorem kd_D_ranked_1 : decode kb_D_ranked 1 = .ok (.getfield 19, 3) := by decide +kernel
theorem kd_D_ranked_4 : decode kb_D_ranked 4 = .ok (.iload_n 1, 1) := by decide +kernel
theorem kd_D_ranked_5 : decode kb_D_ranked 5 = .ok (.invokevirtual 152, 3) := by decide +kernel
theorem kd_D_ranked_8 : decode kb_D_ranked 8 = .ok (.ifCond .ne 13, 3) := by decide +kernel
theorem kd_D_ranked_11 : decode kb_D_ranked 11 = .ok (.new 156, 3) := by decide +kernel
theorem kd_D_ranked_14 : decode kb_D_ranked 14 = .ok (.dup, 1) := by decide +kernel
theorem kd_D_ranked_15 : decode kb_D_ranked 15 = .ok (.ldc 164, 2) := by decide +kernel
theorem kd_D_ranked_17 : decode kb_D_ranked 17 = .ok (.invokespecial 160, 3) := by decide +kernel
theorem kd_D_ranked_20 : decode kb_D_ranked 20 = .ok (.athrow, 1) := by decide +kernel
theorem kd_D_ranked_21 : decode kb_D_ranked 21 = .ok (.aload_n 0, 1) := by decide +kernel
theorem kd_D_ranked_22 : decode kb_D_ranked 22 = .ok (.getfield 19, 3) := by decide +kernel
theorem kd_D_ranked_25 : decode kb_D_ranked 25 = .ok (.iload_n 1, 1) := by decide +kernel
theorem kd_D_ranked_26 : decode kb_D_ranked 26 = .ok (.invokevirtual 166, 3) := by decide +kernel
theorem kd_D_ranked_29 : decode kb_D_ranked 29 = .ok (.ireturn, 1) := by decide +kernel
theorem kd_D_nameAt_0 : decode kb_D_nameAt 0 = .ok (.aload_n 0, 1) := by decide +kernel
theorem kd_D_nameAt_1 : decode kb_D_nameAt 1 = .ok (.getfield 19, 3) := by decide +kernel
theorem kd_D_nameAt_4 : decode kb_D_nameAt 4 = .ok (.iload_n 1, 1) := by decide +kernel
theorem kd_D_nameAt_5 : decode kb_D_nameAt 5 = .ok (.invokevirtual 152, 3) := by decide +kernel
theorem kd_D_nameAt_8 : decode kb_D_nameAt 8 = .ok (.ifCond .ne 13, 3) := by decide +kernel
theorem kd_D_nameAt_11 : decode kb_D_nameAt 11 = .ok (.new 156, 3) := by decide +kernel
theorem kd_D_nameAt_14 : decode kb_D_nameAt 14 = .ok (.dup, 1) := by decide +kernel
theorem kd_D_nameAt_15 : decode kb_D_nameAt 15 = .ok (.ldc 158, 2) := by decide +kernel
theorem kd_D_nameAt_17 : decode kb_D_nameAt 17 = .ok (.invokespecial 160, 3) := by decide +kernel
theorem kd_D_nameAt_20 : decode kb_D_nameAt 20 = .ok (.athrow, 1) := by decide +kernel
theorem kd_D_nameAt_21 : decode kb_D_nameAt 21 = .ok (.aload_n 0, 1) := by decide +kernel
theorem kd_D_nameAt_22 : decode kb_D_nameAt 22 = .ok (.getfield 19, 3) := by decide +kernel
theorem kd_D_nameAt_25 : decode kb_D_nameAt 25 = .ok (.iload_n 1, 1) := by decide +kernel
theorem kd_D_nameAt_26 : decode kb_D_nameAt 26 = .ok (.invokevirtual 169, 3) := by decide +kernel
theorem kd_D_nameAt_29 : decode kb_D_nameAt 29 = .ok (.invokevirtual 88, 3) := by decide +kernel
theorem kd_D_nameAt_32 : decode kb_D_nameAt 32 = .ok (.iload_n 2, 1) := by decide +kernel
theorem kd_D_nameAt_33 : decode kb_D_nameAt 33 = .ok (.invokevirtual 84, 3) := by decide +kernel
theorem kd_D_nameAt_36 : decode kb_D_nameAt 36 = .ok (.ireturn, 1) := by decide +kernel
theorem kd_D_alike_0 : decode kb_D_alike 0 = .ok (.aload_n 0, 1) := by decide +kernel
theorem kd_D_alike_1 : decode kb_D_alike 1 = .ok (.getfield 19, 3) := by decide +kernel
theorem kd_D_alike_4 : decode kb_D_alike 4 = .ok (.iload_n 1, 1) := by decide +kernel
theorem kd_D_alike_5 : decode kb_D_alike 5 = .ok (.invokevirtual 152, 3) := by decide +kernel
theorem kd_D_alike_8 : decode kb_D_alike 8 = .ok (.ifCond .ne 13, 3) := by decide +kernel
theorem kd_D_alike_11 : decode kb_D_alike 11 = .ok (.new 156, 3) := by decide +kernel
theorem kd_D_alike_14 : decode kb_D_alike 14 = .ok (.dup, 1) := by decide +kernel
theorem kd_D_alike_15 : decode kb_D_alike 15 = .ok (.ldc 158, 2) := by decide +kernel
theorem kd_D_alike_17 : decode kb_D_alike 17 = .ok (.invokespecial 160, 3) := by decide +kernel
theorem kd_D_alike_20 : decode kb_D_alike 20 = .ok (.athrow, 1) := by decide +kernel
theorem kd_D_alike_21 : decode kb_D_alike 21 = .ok (.aload_n 0, 1) := by decide +kernel
theorem kd_D_alike_22 : decode kb_D_alike 22 = .ok (.getfield 12, 3) := by decide +kernel
theorem kd_D_alike_25 : decode kb_D_alike 25 = .ok (.aload_n 0, 1) := by decide +kernel
theorem kd_D_alike_26 : decode kb_D_alike 26 = .ok (.getfield 19, 3) := by decide +kernel
theorem kd_D_alike_29 : decode kb_D_alike 29 = .ok (.iload_n 1, 1) := by decide +kernel
theorem kd_D_alike_30 : decode kb_D_alike 30 = .ok (.invokevirtual 169, 3) := by decide +kernel
theorem kd_D_alike_33 : decode kb_D_alike 33 = .ok (.invokestatic 173, 3) := by decide +kernel
theorem kd_D_alike_36 : decode kb_D_alike 36 = .ok (.ireturn, 1) := by decide +kernel
theorem kd_D_likeness_0 : decode kb_D_likeness 0 = .ok (.aload_n 0, 1) := by decide +kernel
theorem kd_D_likeness_1 : decode kb_D_likeness 1 = .ok (.aload_n 1, 1) := by decide +kernel
theorem kd_D_likeness_2 : decode kb_D_likeness 2 = .ok (.invokevirtual 179, 3) := by decide +kernel
theorem kd_D_likeness_5 : decode kb_D_likeness 5 = .ok (.ifCond .eq 5, 3) := by decide +kernel
theorem kd_D_likeness_8 : decode kb_D_likeness 8 = .ok (.iconst 0, 1) := by decide +kernel
theorem kd_D_likeness_9 : decode kb_D_likeness 9 = .ok (.ireturn, 1) := by decide +kernel
theorem kd_D_likeness_10 : decode kb_D_likeness 10 = .ok (.aload_n 0, 1) := by decide +kernel
theorem kd_D_likeness_11 : decode kb_D_likeness 11 = .ok (.aload_n 1, 1) := by decide +kernel
theorem kd_D_likeness_12 : decode kb_D_likeness 12 = .ok (.invokevirtual 182, 3) := by decide +kernel
theorem kd_D_likeness_15 : decode kb_D_likeness 15 = .ok (.ifCond .ne 5, 3) := by decide +kernel
theorem kd_D_likeness_18 : decode kb_D_likeness 18 = .ok (.iconst (-1), 1) := by decide +kernel
theorem kd_D_likeness_19 : decode kb_D_likeness 19 = .ok (.ireturn, 1) := by decide +kernel
theorem kd_D_likeness_20 : decode kb_D_likeness 20 = .ok (.aload_n 0, 1) := by decide +kernel
theorem kd_D_likeness_21 : decode kb_D_likeness 21 = .ok (.invokevirtual 88, 3) := by decide +kernel
theorem kd_D_likeness_24 : decode kb_D_likeness 24 = .ok (.invokestatic 91, 3) := by decide +kernel
theorem kd_D_likeness_27 : decode kb_D_likeness 27 = .ok (.istore_n 2, 1) := by decide +kernel
theorem kd_D_likeness_28 : decode kb_D_likeness 28 = .ok (.aload_n 1, 1) := by decide +kernel
theorem kd_D_likeness_29 : decode kb_D_likeness 29 = .ok (.invokevirtual 88, 3) := by decide +kernel
theorem kd_D_likeness_32 : decode kb_D_likeness 32 = .ok (.invokestatic 91, 3) := by decide +kernel
theorem kd_D_likeness_35 : decode kb_D_likeness 35 = .ok (.istore_n 3, 1) := by decide +kernel
theorem kd_D_likeness_36 : decode kb_D_likeness 36 = .ok (.iload_n 2, 1) := by decide +kernel
theorem kd_D_likeness_37 : decode kb_D_likeness 37 = .ok (.iload_n 3, 1) := by decide +kernel
theorem kd_D_likeness_38 : decode kb_D_likeness 38 = .ok (.iand, 1) := by decide +kernel
theorem kd_D_likeness_39 : decode kb_D_likeness 39 = .ok (.ifCond .eq 5, 3) := by decide +kernel
theorem kd_D_likeness_42 : decode kb_D_likeness 42 = .ok (.iconst 1, 1) := by decide +kernel
theorem kd_D_likeness_43 : decode kb_D_likeness 43 = .ok (.ireturn, 1) := by decide +kernel
theorem kd_D_likeness_44 : decode kb_D_likeness 44 = .ok (.iload_n 2, 1) := by decide +kernel
theorem kd_D_likeness_45 : decode kb_D_likeness 45 = .ok (.ifCond .eq 7, 3) := by decide +kernel
theorem kd_D_likeness_48 : decode kb_D_likeness 48 = .ok (.iload_n 3, 1) := by decide +kernel
theorem kd_D_likeness_49 : decode kb_D_likeness 49 = .ok (.ifCond .ne 7, 3) := by decide +kernel
theorem kd_D_likeness_52 : decode kb_D_likeness 52 = .ok (.iconst 2, 1) := by decide +kernel
theorem kd_D_likeness_53 : decode kb_D_likeness 53 = .ok (.goto 4, 3) := by decide +kernel
theorem kd_D_likeness_56 : decode kb_D_likeness 56 = .ok (.iconst 3, 1) := by decide +kernel
theorem kd_D_likeness_57 : decode kb_D_likeness 57 = .ok (.ireturn, 1) := by decide +kernel
theorem kh_D_init : ky_D_init.cls ≠ "java/lang/invoke/MethodHandle" ∧ ky_D_init.cls ≠ "java/lang/invoke/VarHandle" ∧ (parseMethodDescriptor ky_D_init.desc).map (fun d => d.parameters.length) = some 0 := by decide +kernel
theorem kh_D_wipe : ky_D_wipe.cls ≠ "java/lang/invoke/MethodHandle" ∧ ky_D_wipe.cls ≠ "java/lang/invoke/VarHandle" ∧ (parseMethodDescriptor ky_D_wipe.desc).map (fun d => d.parameters.length) = some 0 := by decide +kernel
theorem kh_D_skeleton : ky_D_skeleton.cls ≠ "java/lang/invoke/MethodHandle" ∧ ky_D_skeleton.cls ≠ "java/lang/invoke/VarHandle" ∧ (parseMethodDescriptor ky_D_skeleton.desc).map (fun d => d.parameters.length) = some 0 := by decide +kernel
theorem kh_D_skeletonAt : ky_D_skeletonAt.cls ≠ "java/lang/invoke/MethodHandle" ∧ ky_D_skeletonAt.cls ≠ "java/lang/invoke/VarHandle" ∧ (parseMethodDescriptor ky_D_skeletonAt.desc).map (fun d => d.parameters.length) = some 1 := by decide +kernel
theorem kh_D_scripts : ky_D_scripts.cls ≠ "java/lang/invoke/MethodHandle" ∧ ky_D_scripts.cls ≠ "java/lang/invoke/VarHandle" ∧ (parseMethodDescriptor ky_D_scripts.desc).map (fun d => d.parameters.length) = some 0 := by decide +kernel
theorem kh_D_level : ky_D_level.cls ≠ "java/lang/invoke/MethodHandle" ∧ ky_D_level.cls ≠ "java/lang/invoke/VarHandle" ∧ (parseMethodDescriptor ky_D_level.desc).map (fun d => d.parameters.length) = some 0 := by decide +kernel
theorem kh_D_odd : ky_D_odd.cls ≠ "java/lang/invoke/MethodHandle" ∧ ky_D_odd.cls ≠ "java/lang/invoke/VarHandle" ∧ (parseMethodDescriptor ky_D_odd.desc).map (fun d => d.parameters.length) = some 0 := by decide +kernel
theorem kh_D_words : ky_D_words.cls ≠ "java/lang/invoke/MethodHandle" ∧ ky_D_words.cls ≠ "java/lang/invoke/VarHandle" ∧ (parseMethodDescriptor ky_D_words.desc).map (fun d => d.parameters.length) = some 0 := by decide +kernel
theorem kh_D_lookalike : ky_D_lookalike.cls ≠ "java/lang/invoke/MethodHandle" ∧ ky_D_lookalike.cls ≠ "java/lang/invoke/VarHandle" ∧ (parseMethodDescriptor ky_D_lookalike.desc).map (fun d => d.parameters.length) = some 1 := by decide +kernel
theorem kh_D_type : ky_D_type.cls ≠ "java/lang/invoke/MethodHandle" ∧ ky_D_type.cls ≠ "java/lang/invoke/VarHandle" ∧ (parseMethodDescriptor ky_D_type.desc).map (fun d => d.parameters.length) = some 2 := by decide +kernel
theorem kh_D_areCharacters : ky_D_areCharacters.cls ≠ "java/lang/invoke/MethodHandle" ∧ ky_D_areCharacters.cls ≠ "java/lang/invoke/VarHandle" ∧ (parseMethodDescriptor ky_D_areCharacters.desc).map (fun d => d.parameters.length) = some 2 := by decide +kernel
theorem kh_D_byteOf : ky_D_byteOf.cls ≠ "java/lang/invoke/MethodHandle" ∧ ky_D_byteOf.cls ≠ "java/lang/invoke/VarHandle" ∧ (parseMethodDescriptor ky_D_byteOf.desc).map (fun d => d.parameters.length) = some 2 := by decide +kernel
theorem kh_D_word : ky_D_word.cls ≠ "java/lang/invoke/MethodHandle" ∧ ky_D_word.cls ≠ "java/lang/invoke/VarHandle" ∧ (parseMethodDescriptor ky_D_word.desc).map (fun d => d.parameters.length) = some 2 := by decide +kernel
theorem kh_D_firstWordLike : ky_D_firstWordLike.cls ≠ "java/lang/invoke/MethodHandle" ∧ ky_D_firstWordLike.cls ≠ "java/lang/invoke/VarHandle" ∧ (parseMethodDescriptor ky_D_firstWordLike.desc).map (fun d => d.parameters.length) = some 1 := by decide +kernel
theorem kh_D_copyWord : ky_D_copyWord.cls ≠ "java/lang/invoke/MethodHandle" ∧ ky_D_copyWord.cls ≠ "java/lang/invoke/VarHandle" ∧ (parseMethodDescriptor ky_D_copyWord.desc).map (fun d => d.parameters.length) = some 2 := by decide +kernel
theorem kh_D_register : ky_D_register.cls ≠ "java/lang/invoke/MethodHandle" ∧ ky_D_register.cls ≠ "java/lang/invoke/VarHandle" ∧ (parseMethodDescriptor ky_D_register.desc).map (fun d => d.parameters.length) = some 0 := by decide +kernel
theorem kh_D_withdraw : ky_D_withdraw.cls ≠ "java/lang/invoke/MethodHandle" ∧ ky_D_withdraw.cls ≠ "java/lang/invoke/VarHandle" ∧ (parseMethodDescriptor ky_D_withdraw.desc).map (fun d => d.parameters.length) = some 1 := by decide +kernel
theorem kh_D_ranked : ky_D_ranked.cls ≠ "java/lang/invoke/MethodHandle" ∧ ky_D_ranked.cls ≠ "java/lang/invoke/VarHandle" ∧ (parseMethodDescriptor ky_D_ranked.desc).map (fun d => d.parameters.length) = some 1 := by decide +kernel
theorem kh_D_nameAt : ky_D_nameAt.cls ≠ "java/lang/invoke/MethodHandle" ∧ ky_D_nameAt.cls ≠ "java/lang/invoke/VarHandle" ∧ (parseMethodDescriptor ky_D_nameAt.desc).map (fun d => d.parameters.length) = some 2 := by decide +kernel
theorem kh_D_alike : ky_D_alike.cls ≠ "java/lang/invoke/MethodHandle" ∧ ky_D_alike.cls ≠ "java/lang/invoke/VarHandle" ∧ (parseMethodDescriptor ky_D_alike.desc).map (fun d => d.parameters.length) = some 1 := by decide +kernel
theorem kh_D_likeness : ky_D_likeness.cls ≠ "java/lang/invoke/MethodHandle" ∧ ky_D_likeness.cls ≠ "java/lang/invoke/VarHandle" ∧ (parseMethodDescriptor ky_D_likeness.desc).map (fun d => d.parameters.length) = some 2 := by decide +kernel
