theorem kd_M_init_0 : decode kb_M_init 0 = .ok (.aload_n 0, 1) := by decide +kernel
theorem kd_M_init_1 : decode kb_M_init 1 = .ok (.invokespecial 1, 3) := by decide +kernel
theorem kd_M_init_4 : decode kb_M_init 4 = .ok (.aload_n 0, 1) := by decide +kernel
theorem kd_M_init_5 : decode kb_M_init 5 = .ok (.sipush 672, 3) := by decide +kernel
theorem kd_M_init_8 : decode kb_M_init 8 = .ok (.newarray .int, 2) := by decide +kernel
theorem kd_M_init_10 : decode kb_M_init 10 = .ok (.putfield 7, 3) := by decide +kernel
theorem kd_M_init_13 : decode kb_M_init 13 = .ok (.aload_n 0, 1) := by decide +kernel
theorem kd_M_init_14 : decode kb_M_init 14 = .ok (.bipush 14, 2) := by decide +kernel
theorem kd_M_init_16 : decode kb_M_init 16 = .ok (.newarray .int, 2) := by decide +kernel
theorem kd_M_init_18 : decode kb_M_init 18 = .ok (.putfield 13, 3) := by decide +kernel
theorem kd_M_init_21 : decode kb_M_init 21 = .ok (.aload_n 0, 1) := by decide +kernel
theorem kd_M_init_22 : decode kb_M_init 22 = .ok (.sipush 320, 3) := by decide +kernel
theorem kd_M_init_25 : decode kb_M_init 25 = .ok (.newarray .int, 2) := by decide +kernel
theorem kd_M_init_27 : decode kb_M_init 27 = .ok (.putfield 16, 3) := by decide +kernel
theorem kd_M_init_30 : decode kb_M_init 30 = .ok (.aload_n 0, 1) := by decide +kernel
theorem kd_M_init_31 : decode kb_M_init 31 = .ok (.iconst 2, 1) := by decide +kernel
theorem kd_M_init_32 : decode kb_M_init 32 = .ok (.newarray .int, 2) := by decide +kernel
theorem kd_M_init_34 : decode kb_M_init 34 = .ok (.putfield 19, 3) := by decide +kernel
theorem kd_M_init_37 : decode kb_M_init 37 = .ok (.aload_n 0, 1) := by decide +kernel
theorem kd_M_init_38 : decode kb_M_init 38 = .ok (.sipush 160, 3) := by decide +kernel
theorem kd_M_init_41 : decode kb_M_init 41 = .ok (.newarray .int, 2) := by decide +kernel
theorem kd_M_init_43 : decode kb_M_init 43 = .ok (.putfield 22, 3) := by decide +kernel
theorem kd_M_init_46 : decode kb_M_init 46 = .ok (.return_, 1) := by decide +kernel
theorem kd_M_thrown_0 : decode kb_M_thrown 0 = .ok (.aload_n 0, 1) := by decide +kernel
theorem kd_M_thrown_1 : decode kb_M_thrown 1 = .ok (.getfield 25, 3) := by decide +kernel
theorem kd_M_thrown_4 : decode kb_M_thrown 4 = .ok (.ireturn, 1) := by decide +kernel
theorem kd_M_type_0 : decode kb_M_type 0 = .ok (.aload_n 0, 1) := by decide +kernel
theorem kd_M_type_1 : decode kb_M_type 1 = .ok (.iconst 0, 1) := by decide +kernel
theorem kd_M_type_2 : decode kb_M_type 2 = .ok (.putfield 25, 3) := by decide +kernel
theorem kd_M_type_5 : decode kb_M_type 5 = .ok (.iload_n 3, 1) := by decide +kernel
theorem kd_M_type_6 : decode kb_M_type 6 = .ok (.iconst 1, 1) := by decide +kernel
theorem kd_M_type_7 : decode kb_M_type 7 = .ok (.if_icmp .lt 9, 3) := by decide +kernel
theorem kd_M_type_10 : decode kb_M_type 10 = .ok (.iload_n 3, 1) := by decide +kernel
theorem kd_M_type_11 : decode kb_M_type 11 = .ok (.bipush 8, 2) := by decide +kernel
theorem kd_M_type_13 : decode kb_M_type 13 = .ok (.if_icmp .le 9, 3) := by decide +kernel
theorem kd_M_type_16 : decode kb_M_type 16 = .ok (.aload_n 0, 1) := by decide +kernel
theorem kd_M_type_17 : decode kb_M_type 17 = .ok (.iconst 1, 1) := by decide +kernel
theorem kd_M_type_18 : decode kb_M_type 18 = .ok (.invokevirtual 73, 3) := by decide +kernel
theorem kd_M_type_21 : decode kb_M_type 21 = .ok (.ireturn, 1) := by decide +kernel
theorem kd_M_type_22 : decode kb_M_type 22 = .ok (.iconst 0, 1) := by decide +kernel
theorem kd_M_type_23 : decode kb_M_type 23 = .ok (.istore 4, 2) := by decide +kernel
theorem kd_M_type_25 : decode kb_M_type 25 = .ok (.iload 4, 2) := by decide +kernel
theorem kd_M_type_27 : decode kb_M_type 27 = .ok (.iload_n 3, 1) := by decide +kernel
theorem kd_M_type_28 : decode kb_M_type 28 = .ok (.if_icmp .ge 33, 3) := by decide +kernel
theorem kd_M_type_31 : decode kb_M_type 31 = .ok (.lload_n 1, 1) := by decide +kernel
theorem kd_M_type_32 : decode kb_M_type 32 = .ok (.bipush 8, 2) := by decide +kernel
theorem kd_M_type_34 : decode kb_M_type 34 = .ok (.iload 4, 2) := by decide +kernel
theorem kd_M_type_36 : decode kb_M_type 36 = .ok (.imul, 1) := by decide +kernel
theorem kd_M_type_37 : decode kb_M_type 37 = .ok (.lshr, 1) := by decide +kernel
theorem kd_M_type_38 : decode kb_M_type 38 = .ok (.ldc2_w 76, 3) := by decide +kernel
theorem kd_M_type_41 : decode kb_M_type 41 = .ok (.land, 1) := by decide +kernel
theorem kd_M_type_42 : decode kb_M_type 42 = .ok (.ldc2_w 78, 3) := by decide +kernel
theorem kd_M_type_45 : decode kb_M_type 45 = .ok (.lcmp, 1) := by decide +kernel
theorem kd_M_type_46 : decode kb_M_type 46 = .ok (.ifCond .le 9, 3) := by decide +kernel
theorem kd_M_type_49 : decode kb_M_type 49 = .ok (.aload_n 0, 1) := by decide +kernel
theorem kd_M_type_50 : decode kb_M_type 50 = .ok (.iconst 1, 1) := by decide +kernel
theorem kd_M_type_51 : decode kb_M_type 51 = .ok (.invokevirtual 73, 3) := by decide +kernel
theorem kd_M_type_54 : decode kb_M_type 54 = .ok (.ireturn, 1) := by decide +kernel
theorem kd_M_type_55 : decode kb_M_type 55 = .ok (.iinc 4 1, 3) := by decide +kernel
theorem kd_M_type_58 : decode kb_M_type 58 = .ok (.goto (-33), 3) := by decide +kernel
theorem kd_M_type_61 : decode kb_M_type 61 = .ok (.aload_n 0, 1) := by decide +kernel
theorem kd_M_type_62 : decode kb_M_type 62 = .ok (.getfield 13, 3) := by decide +kernel
theorem kd_M_type_65 : decode kb_M_type 65 = .ok (.bipush 12, 2) := by decide +kernel
theorem kd_M_type_67 : decode kb_M_type 67 = .ok (.iaload, 1) := by decide +kernel
theorem kd_M_type_68 : decode kb_M_type 68 = .ok (.iload_n 3, 1) := by decide +kernel
theorem kd_M_type_69 : decode kb_M_type 69 = .ok (.iadd, 1) := by decide +kernel
theorem kd_M_type_70 : decode kb_M_type 70 = .ok (.bipush 48, 2) := by decide +kernel
theorem kd_M_type_72 : decode kb_M_type 72 = .ok (.if_icmp .le 9, 3) := by decide +kernel
theorem kd_M_type_75 : decode kb_M_type 75 = .ok (.aload_n 0, 1) := by decide +kernel
theorem kd_M_type_76 : decode kb_M_type 76 = .ok (.iconst 2, 1) := by decide +kernel
theorem kd_M_type_77 : decode kb_M_type 77 = .ok (.invokevirtual 73, 3) := by decide +kernel
theorem kd_M_type_80 : decode kb_M_type 80 = .ok (.ireturn, 1) := by decide +kernel
theorem kd_M_type_81 : decode kb_M_type 81 = .ok (.iload_n 3, 1) := by decide +kernel
theorem kd_M_type_82 : decode kb_M_type 82 = .ok (.iconst 1, 1) := by decide +kernel
theorem kd_M_type_83 : decode kb_M_type 83 = .ok (.isub, 1) := by decide +kernel
theorem kd_M_type_84 : decode kb_M_type 84 = .ok (.istore 4, 2) := by decide +kernel
theorem kd_M_type_86 : decode kb_M_type 86 = .ok (.iload 4, 2) := by decide +kernel
theorem kd_M_type_88 : decode kb_M_type 88 = .ok (.ifCond .lt 48, 3) := by decide +kernel
theorem kd_M_type_91 : decode kb_M_type 91 = .ok (.aload_n 0, 1) := by decide +kernel
theorem kd_M_type_92 : decode kb_M_type 92 = .ok (.getfield 7, 3) := by decide +kernel
theorem kd_M_type_95 : decode kb_M_type 95 = .ok (.sipush 576, 3) := by decide +kernel
theorem kd_M_type_98 : decode kb_M_type 98 = .ok (.aload_n 0, 1) := by decide +kernel
theorem kd_M_type_99 : decode kb_M_type 99 = .ok (.getfield 13, 3) := by decide +kernel
theorem kd_M_type_102 : decode kb_M_type 102 = .ok (.bipush 12, 2) := by decide +kernel
theorem kd_M_type_104 : decode kb_M_type 104 = .ok (.iaload, 1) := by decide +kernel
theorem kd_M_type_105 : decode kb_M_type 105 = .ok (.iadd, 1) := by decide +kernel
theorem kd_M_type_106 : decode kb_M_type 106 = .ok (.lload_n 1, 1) := by decide +kernel
theorem kd_M_type_107 : decode kb_M_type 107 = .ok (.bipush 8, 2) := by decide +kernel
theorem kd_M_type_109 : decode kb_M_type 109 = .ok (.iload 4, 2) := by decide +kernel
theorem kd_M_type_111 : decode kb_M_type 111 = .ok (.imul, 1) := by decide +kernel
theorem kd_M_type_112 : decode kb_M_type 112 = .ok (.lshr, 1) := by decide +kernel
theorem kd_M_type_113 : decode kb_M_type 113 = .ok (.ldc2_w 76, 3) := by decide +kernel
theorem kd_M_type_116 : decode kb_M_type 116 = .ok (.land, 1) := by decide +kernel
theorem kd_M_type_117 : decode kb_M_type 117 = .ok (.l2i, 1) := by decide +kernel
theorem kd_M_type_118 : decode kb_M_type 118 = .ok (.iastore, 1) := by decide +kernel
theorem kd_M_type_119 : decode kb_M_type 119 = .ok (.aload_n 0, 1) := by decide +kernel
theorem kd_M_type_120 : decode kb_M_type 120 = .ok (.getfield 13, 3) := by decide +kernel
theorem kd_M_type_123 : decode kb_M_type 123 = .ok (.bipush 12, 2) := by decide +kernel
theorem kd_M_type_125 : decode kb_M_type 125 = .ok (.dup2, 1) := by decide +kernel
theorem kd_M_type_126 : decode kb_M_type 126 = .ok (.iaload, 1) := by decide +kernel
theorem kd_M_type_127 : decode kb_M_type 127 = .ok (.iconst 1, 1) := by decide +kernel
theorem kd_M_type_128 : decode kb_M_type 128 = .ok (.iadd, 1) := by decide +kernel
theorem kd_M_type_129 : decode kb_M_type 129 = .ok (.iastore, 1) := by decide +kernel
theorem kd_M_type_130 : decode kb_M_type 130 = .ok (.iinc 4 (-1), 3) := by decide +kernel
theorem kd_M_type_133 : decode kb_M_type 133 = .ok (.goto (-47), 3) := by decide +kernel
theorem kd_M_type_136 : decode kb_M_type 136 = .ok (.aload_n 0, 1) := by decide +kernel
theorem kd_M_type_137 : decode kb_M_type 137 = .ok (.getfield 13, 3) := by decide +kernel
theorem kd_M_type_140 : decode kb_M_type 140 = .ok (.bipush 12, 2) := by decide +kernel
theorem kd_M_type_142 : decode kb_M_type 142 = .ok (.iaload, 1) := by decide +kernel
theorem kd_M_type_143 : decode kb_M_type 143 = .ok (.ireturn, 1) := by decide +kernel
theorem kd_M_refuse_0 : decode kb_M_refuse 0 = .ok (.aload_n 0, 1) := by decide +kernel
theorem kd_M_refuse_1 : decode kb_M_refuse 1 = .ok (.iload_n 1, 1) := by decide +kernel
theorem kd_M_refuse_2 : decode kb_M_refuse 2 = .ok (.putfield 25, 3) := by decide +kernel
theorem kd_M_refuse_5 : decode kb_M_refuse 5 = .ok (.iconst 0, 1) := by decide +kernel
theorem kd_M_refuse_6 : decode kb_M_refuse 6 = .ok (.ireturn, 1) := by decide +kernel
theorem kd_M_wipe_0 : decode kb_M_wipe 0 = .ok (.aload_n 0, 1) := by decide +kernel
theorem kd_M_wipe_1 : decode kb_M_wipe 1 = .ok (.iconst 0, 1) := by decide +kernel
theorem kd_M_wipe_2 : decode kb_M_wipe 2 = .ok (.putfield 25, 3) := by decide +kernel
theorem kd_M_wipe_5 : decode kb_M_wipe 5 = .ok (.aload_n 0, 1) := by decide +kernel
theorem kd_M_wipe_6 : decode kb_M_wipe 6 = .ok (.getfield 13, 3) := by decide +kernel
theorem kd_M_wipe_9 : decode kb_M_wipe 9 = .ok (.bipush 12, 2) := by decide +kernel
theorem kd_M_wipe_11 : decode kb_M_wipe 11 = .ok (.iaload, 1) := by decide +kernel
theorem kd_M_wipe_12 : decode kb_M_wipe 12 = .ok (.istore_n 1, 1) := by decide +kernel
theorem kd_M_wipe_13 : decode kb_M_wipe 13 = .ok (.aload_n 0, 1) := by decide +kernel
theorem kd_M_wipe_14 : decode kb_M_wipe 14 = .ok (.getfield 13, 3) := by decide +kernel
theorem kd_M_wipe_17 : decode kb_M_wipe 17 = .ok (.bipush 12, 2) := by decide +kernel
theorem kd_M_wipe_19 : decode kb_M_wipe 19 = .ok (.iconst 0, 1) := by decide +kernel
theorem kd_M_wipe_20 : decode kb_M_wipe 20 = .ok (.iastore, 1) := by decide +kernel
theorem kd_M_wipe_21 : decode kb_M_wipe 21 = .ok (.iload_n 1, 1) := by decide +kernel
theorem kd_M_wipe_22 : decode kb_M_wipe 22 = .ok (.ireturn, 1) := by decide +kernel
theorem kd_M_skeleton_0 : decode kb_M_skeleton 0 = .ok (.aload_n 0, 1) := by decide +kernel
theorem kd_M_skeleton_1 : decode kb_M_skeleton 1 = .ok (.iconst 0, 1) := by decide +kernel
theorem kd_M_skeleton_2 : decode kb_M_skeleton 2 = .ok (.putfield 25, 3) := by decide +kernel
theorem kd_M_skeleton_5 : decode kb_M_skeleton 5 = .ok (.aload_n 0, 1) := by decide +kernel
theorem kd_M_skeleton_6 : decode kb_M_skeleton 6 = .ok (.bipush 12, 2) := by decide +kernel
theorem kd_M_skeleton_8 : decode kb_M_skeleton 8 = .ok (.iconst 0, 1) := by decide +kernel
theorem kd_M_skeleton_9 : decode kb_M_skeleton 9 = .ok (.invokevirtual 59, 3) := by decide +kernel
theorem kd_M_skeleton_12 : decode kb_M_skeleton 12 = .ok (.aload_n 0, 1) := by decide +kernel
theorem kd_M_skeleton_13 : decode kb_M_skeleton 13 = .ok (.getfield 19, 3) := by decide +kernel
theorem kd_M_skeleton_16 : decode kb_M_skeleton 16 = .ok (.iconst 0, 1) := by decide +kernel
theorem kd_M_skeleton_17 : decode kb_M_skeleton 17 = .ok (.iaload, 1) := by decide +kernel
theorem kd_M_skeleton_18 : decode kb_M_skeleton 18 = .ok (.ireturn, 1) := by decide +kernel
theorem kd_M_makeSkeleton_0 : decode kb_M_makeSkeleton 0 = .ok (.aload_n 0, 1) := by decide +kernel
theorem kd_M_makeSkeleton_1 : decode kb_M_makeSkeleton 1 = .ok (.iload_n 1, 1) := by decide +kernel
theorem kd_M_makeSkeleton_2 : decode kb_M_makeSkeleton 2 = .ok (.iload_n 2, 1) := by decide +kernel
theorem kd_M_makeSkeleton_3 : decode kb_M_makeSkeleton 3 = .ok (.iconst 0, 1) := by decide +kernel
theorem kd_M_makeSkeleton_4 : decode kb_M_makeSkeleton 4 = .ok (.invokevirtual 52, 3) := by decide +kernel
theorem kd_M_makeSkeleton_7 : decode kb_M_makeSkeleton 7 = .ok (.aload_n 0, 1) := by decide +kernel
theorem kd_M_makeSkeleton_8 : decode kb_M_makeSkeleton 8 = .ok (.getfield 19, 3) := by decide +kernel
theorem kd_M_makeSkeleton_11 : decode kb_M_makeSkeleton 11 = .ok (.iload_n 2, 1) := by decide +kernel
theorem kd_M_makeSkeleton_12 : decode kb_M_makeSkeleton 12 = .ok (.iaload, 1) := by decide +kernel
theorem kd_M_makeSkeleton_13 : decode kb_M_makeSkeleton 13 = .ok (.istore_n 3, 1) := by decide +kernel
theorem kd_M_makeSkeleton_14 : decode kb_M_makeSkeleton 14 = .ok (.iconst 0, 1) := by decide +kernel
theorem kd_M_makeSkeleton_15 : decode kb_M_makeSkeleton 15 = .ok (.istore 4, 2) := by decide +kernel
theorem kd_M_makeSkeleton_17 : decode kb_M_makeSkeleton 17 = .ok (.iload 4, 2) := by decide +kernel
theorem kd_M_makeSkeleton_19 : decode kb_M_makeSkeleton 19 = .ok (.iload_n 3, 1) := by decide +kernel
theorem kd_M_makeSkeleton_20 : decode kb_M_makeSkeleton 20 = .ok (.if_icmp .ge 29, 3) := by decide +kernel
theorem kd_M_makeSkeleton_23 : decode kb_M_makeSkeleton 23 = .ok (.aload_n 0, 1) := by decide +kernel
theorem kd_M_makeSkeleton_24 : decode kb_M_makeSkeleton 24 = .ok (.getfield 22, 3) := by decide +kernel
theorem kd_M_makeSkeleton_27 : decode kb_M_makeSkeleton 27 = .ok (.iload 4, 2) := by decide +kernel
theorem kd_M_makeSkeleton_29 : decode kb_M_makeSkeleton 29 = .ok (.aload_n 0, 1) := by decide +kernel
theorem kd_M_makeSkeleton_30 : decode kb_M_makeSkeleton 30 = .ok (.getfield 16, 3) := by decide +kernel
theorem kd_M_makeSkeleton_33 : decode kb_M_makeSkeleton 33 = .ok (.sipush 160, 3) := by decide +kernel
theorem kd_M_makeSkeleton_36 : decode kb_M_makeSkeleton 36 = .ok (.iload_n 2, 1) := by decide +kernel
theorem kd_M_makeSkeleton_37 : decode kb_M_makeSkeleton 37 = .ok (.imul, 1) := by decide +kernel
theorem kd_M_makeSkeleton_38 : decode kb_M_makeSkeleton 38 = .ok (.iload 4, 2) := by decide +kernel
theorem kd_M_makeSkeleton_40 : decode kb_M_makeSkeleton 40 = .ok (.iadd, 1) := by decide +kernel
theorem kd_M_makeSkeleton_41 : decode kb_M_makeSkeleton 41 = .ok (.iaload, 1) := by decide +kernel
theorem kd_M_makeSkeleton_42 : decode kb_M_makeSkeleton 42 = .ok (.iastore, 1) := by decide +kernel
theorem kd_M_makeSkeleton_43 : decode kb_M_makeSkeleton 43 = .ok (.iinc 4 1, 3) := by decide +kernel
theorem kd_M_makeSkeleton_46 : decode kb_M_makeSkeleton 46 = .ok (.goto (-29), 3) := by decide +kernel
theorem kd_M_makeSkeleton_49 : decode kb_M_makeSkeleton 49 = .ok (.aload_n 0, 1) := by decide +kernel
theorem kd_M_makeSkeleton_50 : decode kb_M_makeSkeleton 50 = .ok (.getfield 19, 3) := by decide +kernel
theorem kd_M_makeSkeleton_53 : decode kb_M_makeSkeleton 53 = .ok (.iload_n 2, 1) := by decide +kernel
theorem kd_M_makeSkeleton_54 : decode kb_M_makeSkeleton 54 = .ok (.iconst 0, 1) := by decide +kernel
theorem kd_M_makeSkeleton_55 : decode kb_M_makeSkeleton 55 = .ok (.iastore, 1) := by decide +kernel
theorem kd_M_makeSkeleton_56 : decode kb_M_makeSkeleton 56 = .ok (.iconst 0, 1) := by decide +kernel
theorem kd_M_makeSkeleton_57 : decode kb_M_makeSkeleton 57 = .ok (.istore 4, 2) := by decide +kernel
theorem kd_M_makeSkeleton_59 : decode kb_M_makeSkeleton 59 = .ok (.iload 4, 2) := by decide +kernel
theorem kd_M_makeSkeleton_61 : decode kb_M_makeSkeleton 61 = .ok (.iload_n 3, 1) := by decide +kernel
theorem kd_M_makeSkeleton_62 : decode kb_M_makeSkeleton 62 = .ok (.if_icmp .ge 54, 3) := by decide +kernel
theorem kd_M_makeSkeleton_65 : decode kb_M_makeSkeleton 65 = .ok (.aload_n 0, 1) := by decide +kernel
theorem kd_M_makeSkeleton_66 : decode kb_M_makeSkeleton 66 = .ok (.getfield 22, 3) := by decide +kernel
theorem kd_M_makeSkeleton_69 : decode kb_M_makeSkeleton 69 = .ok (.iload 4, 2) := by decide +kernel
theorem kd_M_makeSkeleton_71 : decode kb_M_makeSkeleton 71 = .ok (.iaload, 1) := by decide +kernel
theorem kd_M_makeSkeleton_72 : decode kb_M_makeSkeleton 72 = .ok (.invokestatic 56, 3) := by decide +kernel
theorem kd_M_makeSkeleton_75 : decode kb_M_makeSkeleton 75 = .ok (.istore 5, 2) := by decide +kernel
theorem kd_M_makeSkeleton_77 : decode kb_M_makeSkeleton 77 = .ok (.aload_n 0, 1) := by decide +kernel
theorem kd_M_makeSkeleton_78 : decode kb_M_makeSkeleton 78 = .ok (.iload_n 2, 1) := by decide +kernel
theorem kd_M_makeSkeleton_79 : decode kb_M_makeSkeleton 79 = .ok (.iload 5, 2) := by decide +kernel
theorem kd_M_makeSkeleton_81 : decode kb_M_makeSkeleton 81 = .ok (.sipush 1000, 3) := by decide +kernel
theorem kd_M_makeSkeleton_84 : decode kb_M_makeSkeleton 84 = .ok (.idiv, 1) := by decide +kernel
theorem kd_M_makeSkeleton_85 : decode kb_M_makeSkeleton 85 = .ok (.invokevirtual 44, 3) := by decide +kernel
theorem kd_M_makeSkeleton_88 : decode kb_M_makeSkeleton 88 = .ok (.iload 5, 2) := by decide +kernel
theorem kd_M_makeSkeleton_90 : decode kb_M_makeSkeleton 90 = .ok (.sipush 1000, 3) := by decide +kernel
theorem kd_M_makeSkeleton_93 : decode kb_M_makeSkeleton 93 = .ok (.irem, 1) := by decide +kernel
theorem kd_M_makeSkeleton_94 : decode kb_M_makeSkeleton 94 = .ok (.ifCond .le 16, 3) := by decide +kernel
theorem kd_M_makeSkeleton_97 : decode kb_M_makeSkeleton 97 = .ok (.aload_n 0, 1) := by decide +kernel
theorem kd_M_makeSkeleton_98 : decode kb_M_makeSkeleton 98 = .ok (.iload_n 2, 1) := by decide +kernel
theorem kd_M_makeSkeleton_99 : decode kb_M_makeSkeleton 99 = .ok (.iload 5, 2) := by decide +kernel
theorem kd_M_makeSkeleton_101 : decode kb_M_makeSkeleton 101 = .ok (.sipush 1000, 3) := by decide +kernel
theorem kd_M_makeSkeleton_104 : decode kb_M_makeSkeleton 104 = .ok (.irem, 1) := by decide +kernel
theorem kd_M_makeSkeleton_105 : decode kb_M_makeSkeleton 105 = .ok (.iconst 1, 1) := by decide +kernel
theorem kd_M_makeSkeleton_106 : decode kb_M_makeSkeleton 106 = .ok (.isub, 1) := by decide +kernel
theorem kd_M_makeSkeleton_107 : decode kb_M_makeSkeleton 107 = .ok (.invokevirtual 44, 3) := by decide +kernel
theorem kd_M_makeSkeleton_110 : decode kb_M_makeSkeleton 110 = .ok (.iinc 4 1, 3) := by decide +kernel
theorem kd_M_makeSkeleton_113 : decode kb_M_makeSkeleton 113 = .ok (.goto (-54), 3) := by decide +kernel
theorem kd_M_makeSkeleton_116 : decode kb_M_makeSkeleton 116 = .ok (.aload_n 0, 1) := by decide +kernel
theorem kd_M_makeSkeleton_117 : decode kb_M_makeSkeleton 117 = .ok (.iload_n 2, 1) := by decide +kernel
theorem kd_M_makeSkeleton_118 : decode kb_M_makeSkeleton 118 = .ok (.invokevirtual 48, 3) := by decide +kernel
theorem kd_M_makeSkeleton_121 : decode kb_M_makeSkeleton 121 = .ok (.return_, 1) := by decide +kernel
theorem kd_M_takeApart_0 : decode kb_M_takeApart 0 = .ok (.aload_n 0, 1) := by decide +kernel
theorem kd_M_takeApart_1 : decode kb_M_takeApart 1 = .ok (.getfield 19, 3) := by decide +kernel
theorem kd_M_takeApart_4 : decode kb_M_takeApart 4 = .ok (.iload_n 2, 1) := by decide +kernel
theorem kd_M_takeApart_5 : decode kb_M_takeApart 5 = .ok (.iconst 0, 1) := by decide +kernel
theorem kd_M_takeApart_6 : decode kb_M_takeApart 6 = .ok (.iastore, 1) := by decide +kernel
theorem kd_M_takeApart_7 : decode kb_M_takeApart 7 = .ok (.iconst 0, 1) := by decide +kernel
theorem kd_M_takeApart_8 : decode kb_M_takeApart 8 = .ok (.istore 4, 2) := by decide +kernel
theorem kd_M_takeApart_10 : decode kb_M_takeApart 10 = .ok (.iload 4, 2) := by decide +kernel
theorem kd_M_takeApart_12 : decode kb_M_takeApart 12 = .ok (.aload_n 0, 1) := by decide +kernel
theorem kd_M_takeApart_13 : decode kb_M_takeApart 13 = .ok (.getfield 13, 3) := by decide +kernel
theorem kd_M_takeApart_16 : decode kb_M_takeApart 16 = .ok (.iload_n 1, 1) := by decide +kernel
theorem kd_M_takeApart_17 : decode kb_M_takeApart 17 = .ok (.iaload, 1) := by decide +kernel
theorem kd_M_takeApart_18 : decode kb_M_takeApart 18 = .ok (.if_icmp .ge 76, 3) := by decide +kernel
theorem kd_M_takeApart_21 : decode kb_M_takeApart 21 = .ok (.aload_n 0, 1) := by decide +kernel
theorem kd_M_takeApart_22 : decode kb_M_takeApart 22 = .ok (.getfield 7, 3) := by decide +kernel
theorem kd_M_takeApart_25 : decode kb_M_takeApart 25 = .ok (.bipush 48, 2) := by decide +kernel
theorem kd_M_takeApart_27 : decode kb_M_takeApart 27 = .ok (.iload_n 1, 1) := by decide +kernel
theorem kd_M_takeApart_28 : decode kb_M_takeApart 28 = .ok (.imul, 1) := by decide +kernel
theorem kd_M_takeApart_29 : decode kb_M_takeApart 29 = .ok (.iload 4, 2) := by decide +kernel
theorem kd_M_takeApart_31 : decode kb_M_takeApart 31 = .ok (.iadd, 1) := by decide +kernel
theorem kd_M_takeApart_32 : decode kb_M_takeApart 32 = .ok (.iaload, 1) := by decide +kernel
theorem kd_M_takeApart_33 : decode kb_M_takeApart 33 = .ok (.istore 5, 2) := by decide +kernel
theorem kd_M_takeApart_35 : decode kb_M_takeApart 35 = .ok (.iload 5, 2) := by decide +kernel
theorem kd_M_takeApart_37 : decode kb_M_takeApart 37 = .ok (.bipush 123, 2) := by decide +kernel
theorem kd_M_takeApart_39 : decode kb_M_takeApart 39 = .ok (.if_icmp .le 31, 3) := by decide +kernel
theorem kd_M_takeApart_42 : decode kb_M_takeApart 42 = .ok (.aload_n 0, 1) := by decide +kernel
theorem kd_M_takeApart_43 : decode kb_M_takeApart 43 = .ok (.iload_n 2, 1) := by decide +kernel
theorem kd_M_takeApart_44 : decode kb_M_takeApart 44 = .ok (.iconst 4, 1) := by decide +kernel
theorem kd_M_takeApart_45 : decode kb_M_takeApart 45 = .ok (.iload 5, 2) := by decide +kernel
theorem kd_M_takeApart_47 : decode kb_M_takeApart 47 = .ok (.bipush 124, 2) := by decide +kernel
theorem kd_M_takeApart_49 : decode kb_M_takeApart 49 = .ok (.isub, 1) := by decide +kernel
theorem kd_M_takeApart_50 : decode kb_M_takeApart 50 = .ok (.imul, 1) := by decide +kernel
theorem kd_M_takeApart_51 : decode kb_M_takeApart 51 = .ok (.invokevirtual 44, 3) := by decide +kernel
theorem kd_M_takeApart_54 : decode kb_M_takeApart 54 = .ok (.aload_n 0, 1) := by decide +kernel
theorem kd_M_takeApart_55 : decode kb_M_takeApart 55 = .ok (.iload_n 2, 1) := by decide +kernel
theorem kd_M_takeApart_56 : decode kb_M_takeApart 56 = .ok (.bipush 104, 2) := by decide +kernel
theorem kd_M_takeApart_58 : decode kb_M_takeApart 58 = .ok (.iload 5, 2) := by decide +kernel
theorem kd_M_takeApart_60 : decode kb_M_takeApart 60 = .ok (.iadd, 1) := by decide +kernel
theorem kd_M_takeApart_61 : decode kb_M_takeApart 61 = .ok (.bipush 124, 2) := by decide +kernel
theorem kd_M_takeApart_63 : decode kb_M_takeApart 63 = .ok (.isub, 1) := by decide +kernel
theorem kd_M_takeApart_64 : decode kb_M_takeApart 64 = .ok (.invokevirtual 44, 3) := by decide +kernel
theorem kd_M_takeApart_67 : decode kb_M_takeApart 67 = .ok (.goto 21, 3) := by decide +kernel
theorem kd_M_takeApart_70 : decode kb_M_takeApart 70 = .ok (.iload_n 3, 1) := by decide +kernel
theorem kd_M_takeApart_71 : decode kb_M_takeApart 71 = .ok (.ifCond .ne 10, 3) := by decide +kernel
theorem kd_M_takeApart_74 : decode kb_M_takeApart 74 = .ok (.iload 5, 2) := by decide +kernel
theorem kd_M_takeApart_76 : decode kb_M_takeApart 76 = .ok (.bipush 120, 2) := by decide +kernel
theorem kd_M_takeApart_78 : decode kb_M_takeApart 78 = .ok (.if_icmp .ge 10, 3) := by decide +kernel
theorem kd_M_takeApart_81 : decode kb_M_takeApart 81 = .ok (.aload_n 0, 1) := by decide +kernel
theorem kd_M_takeApart_82 : decode kb_M_takeApart 82 = .ok (.iload_n 2, 1) := by decide +kernel
theorem kd_M_takeApart_83 : decode kb_M_takeApart 83 = .ok (.iload 5, 2) := by decide +kernel
theorem kd_M_takeApart_85 : decode kb_M_takeApart 85 = .ok (.invokevirtual 44, 3) := by decide +kernel
theorem kd_M_takeApart_88 : decode kb_M_takeApart 88 = .ok (.iinc 4 1, 3) := by decide +kernel
theorem kd_M_takeApart_91 : decode kb_M_takeApart 91 = .ok (.goto (-81), 3) := by decide +kernel
theorem kd_M_takeApart_94 : decode kb_M_takeApart 94 = .ok (.aload_n 0, 1) := by decide +kernel
theorem kd_M_takeApart_95 : decode kb_M_takeApart 95 = .ok (.iload_n 2, 1) := by decide +kernel
theorem kd_M_takeApart_96 : decode kb_M_takeApart 96 = .ok (.invokevirtual 48, 3) := by decide +kernel
theorem kd_M_takeApart_99 : decode kb_M_takeApart 99 = .ok (.return_, 1) := by decide +kernel
theorem kd_M_add_0 : decode kb_M_add 0 = .ok (.aload_n 0, 1) := by decide +kernel
theorem kd_M_add_1 : decode kb_M_add 1 = .ok (.getfield 16, 3) := by decide +kernel
theorem kd_M_add_4 : decode kb_M_add 4 = .ok (.sipush 160, 3) := by decide +kernel
theorem kd_M_add_7 : decode kb_M_add 7 = .ok (.iload_n 1, 1) := by decide +kernel
theorem kd_M_add_8 : decode kb_M_add 8 = .ok (.imul, 1) := by decide +kernel
theorem kd_M_add_9 : decode kb_M_add 9 = .ok (.aload_n 0, 1) := by decide +kernel
theorem kd_M_add_10 : decode kb_M_add 10 = .ok (.getfield 19, 3) := by decide +kernel
theorem kd_M_add_13 : decode kb_M_add 13 = .ok (.iload_n 1, 1) := by decide +kernel
theorem kd_M_add_14 : decode kb_M_add 14 = .ok (.iaload, 1) := by decide +kernel
theorem kd_M_add_15 : decode kb_M_add 15 = .ok (.iadd, 1) := by decide +kernel
theorem kd_M_add_16 : decode kb_M_add 16 = .ok (.iload_n 2, 1) := by decide +kernel
theorem kd_M_add_17 : decode kb_M_add 17 = .ok (.iastore, 1) := by decide +kernel
theorem kd_M_add_18 : decode kb_M_add 18 = .ok (.aload_n 0, 1) := by decide +kernel
theorem kd_M_add_19 : decode kb_M_add 19 = .ok (.getfield 19, 3) := by decide +kernel
theorem kd_M_add_22 : decode kb_M_add 22 = .ok (.iload_n 1, 1) := by decide +kernel
theorem kd_M_add_23 : decode kb_M_add 23 = .ok (.dup2, 1) := by decide +kernel
theorem kd_M_add_24 : decode kb_M_add 24 = .ok (.iaload, 1) := by decide +kernel
theorem kd_M_add_25 : decode kb_M_add 25 = .ok (.iconst 1, 1) := by decide +kernel
theorem kd_M_add_26 : decode kb_M_add 26 = .ok (.iadd, 1) := by decide +kernel
theorem kd_M_add_27 : decode kb_M_add 27 = .ok (.iastore, 1) := by decide +kernel
theorem kd_M_add_28 : decode kb_M_add 28 = .ok (.return_, 1) := by decide +kernel
theorem kd_M_settle_0 : decode kb_M_settle 0 = .ok (.iconst 1, 1) := by decide +kernel
theorem kd_M_settle_1 : decode kb_M_settle 1 = .ok (.istore_n 2, 1) := by decide +kernel
theorem kd_M_settle_2 : decode kb_M_settle 2 = .ok (.iload_n 2, 1) := by decide +kernel
theorem kd_M_settle_3 : decode kb_M_settle 3 = .ok (.aload_n 0, 1) := by decide +kernel
theorem kd_M_settle_4 : decode kb_M_settle 4 = .ok (.getfield 19, 3) := by decide +kernel
theorem kd_M_settle_7 : decode kb_M_settle 7 = .ok (.iload_n 1, 1) := by decide +kernel
theorem kd_M_settle_8 : decode kb_M_settle 8 = .ok (.iaload, 1) := by decide +kernel
theorem kd_M_settle_9 : decode kb_M_settle 9 = .ok (.if_icmp .ge 113, 3) := by decide +kernel
theorem kd_M_settle_12 : decode kb_M_settle 12 = .ok (.sipush 160, 3) := by decide +kernel
theorem kd_M_settle_15 : decode kb_M_settle 15 = .ok (.iload_n 1, 1) := by decide +kernel
theorem kd_M_settle_16 : decode kb_M_settle 16 = .ok (.imul, 1) := by decide +kernel
theorem kd_M_settle_17 : decode kb_M_settle 17 = .ok (.iload_n 2, 1) := by decide +kernel
theorem kd_M_settle_18 : decode kb_M_settle 18 = .ok (.iadd, 1) := by decide +kernel
theorem kd_M_settle_19 : decode kb_M_settle 19 = .ok (.istore_n 3, 1) := by decide +kernel
theorem kd_M_settle_20 : decode kb_M_settle 20 = .ok (.iload_n 3, 1) := by decide +kernel
theorem kd_M_settle_21 : decode kb_M_settle 21 = .ok (.sipush 160, 3) := by decide +kernel
theorem kd_M_settle_24 : decode kb_M_settle 24 = .ok (.iload_n 1, 1) := by decide +kernel
theorem kd_M_settle_25 : decode kb_M_settle 25 = .ok (.imul, 1) := by decide +kernel
theorem kd_M_settle_26 : decode kb_M_settle 26 = .ok (.if_icmp .le 90, 3) := by decide +kernel
theorem kd_M_settle_29 : decode kb_M_settle 29 = .ok (.aload_n 0, 1) := by decide +kernel
theorem kd_M_settle_30 : decode kb_M_settle 30 = .ok (.getfield 16, 3) := by decide +kernel
theorem kd_M_settle_33 : decode kb_M_settle 33 = .ok (.iload_n 3, 1) := by decide +kernel
theorem kd_M_settle_34 : decode kb_M_settle 34 = .ok (.iaload, 1) := by decide +kernel
theorem kd_M_settle_35 : decode kb_M_settle 35 = .ok (.invokestatic 36, 3) := by decide +kernel
theorem kd_M_settle_38 : decode kb_M_settle 38 = .ok (.ifCond .eq 78, 3) := by decide +kernel
theorem kd_M_settle_41 : decode kb_M_settle 41 = .ok (.aload_n 0, 1) := by decide +kernel
theorem kd_M_settle_42 : decode kb_M_settle 42 = .ok (.getfield 16, 3) := by decide +kernel
theorem kd_M_settle_45 : decode kb_M_settle 45 = .ok (.iload_n 3, 1) := by decide +kernel
theorem kd_M_settle_46 : decode kb_M_settle 46 = .ok (.iconst 1, 1) := by decide +kernel
theorem kd_M_settle_47 : decode kb_M_settle 47 = .ok (.isub, 1) := by decide +kernel
theorem kd_M_settle_48 : decode kb_M_settle 48 = .ok (.iaload, 1) := by decide +kernel
theorem kd_M_settle_49 : decode kb_M_settle 49 = .ok (.invokestatic 36, 3) := by decide +kernel
theorem kd_M_settle_52 : decode kb_M_settle 52 = .ok (.ifCond .eq 64, 3) := by decide +kernel
theorem kd_M_settle_55 : decode kb_M_settle 55 = .ok (.aload_n 0, 1) := by decide +kernel
theorem kd_M_settle_56 : decode kb_M_settle 56 = .ok (.getfield 16, 3) := by decide +kernel
theorem kd_M_settle_59 : decode kb_M_settle 59 = .ok (.iload_n 3, 1) := by decide +kernel
theorem kd_M_settle_60 : decode kb_M_settle 60 = .ok (.iaload, 1) := by decide +kernel
theorem kd_M_settle_61 : decode kb_M_settle 61 = .ok (.invokestatic 40, 3) := by decide +kernel
theorem kd_M_settle_64 : decode kb_M_settle 64 = .ok (.aload_n 0, 1) := by decide +kernel
theorem kd_M_settle_65 : decode kb_M_settle 65 = .ok (.getfield 16, 3) := by decide +kernel
theorem kd_M_settle_68 : decode kb_M_settle 68 = .ok (.iload_n 3, 1) := by decide +kernel
theorem kd_M_settle_69 : decode kb_M_settle 69 = .ok (.iconst 1, 1) := by decide +kernel
theorem kd_M_settle_70 : decode kb_M_settle 70 = .ok (.isub, 1) := by decide +kernel
theorem kd_M_settle_71 : decode kb_M_settle 71 = .ok (.iaload, 1) := by decide +kernel
theorem kd_M_settle_72 : decode kb_M_settle 72 = .ok (.invokestatic 40, 3) := by decide +kernel
theorem kd_M_settle_75 : decode kb_M_settle 75 = .ok (.if_icmp .ge 41, 3) := by decide +kernel
theorem kd_M_settle_78 : decode kb_M_settle 78 = .ok (.aload_n 0, 1) := by decide +kernel
theorem kd_M_settle_79 : decode kb_M_settle 79 = .ok (.getfield 16, 3) := by decide +kernel
theorem kd_M_settle_82 : decode kb_M_settle 82 = .ok (.iload_n 3, 1) := by decide +kernel
theorem kd_M_settle_83 : decode kb_M_settle 83 = .ok (.iaload, 1) := by decide +kernel
theorem kd_M_settle_84 : decode kb_M_settle 84 = .ok (.istore 4, 2) := by decide +kernel
theorem kd_M_settle_86 : decode kb_M_settle 86 = .ok (.aload_n 0, 1) := by decide +kernel
theorem kd_M_settle_87 : decode kb_M_settle 87 = .ok (.getfield 16, 3) := by decide +kernel
theorem kd_M_settle_90 : decode kb_M_settle 90 = .ok (.iload_n 3, 1) := by decide +kernel
theorem kd_M_settle_91 : decode kb_M_settle 91 = .ok (.aload_n 0, 1) := by decide +kernel
theorem kd_M_settle_92 : decode kb_M_settle 92 = .ok (.getfield 16, 3) := by decide +kernel
theorem kd_M_settle_95 : decode kb_M_settle 95 = .ok (.iload_n 3, 1) := by decide +kernel
theorem kd_M_settle_96 : decode kb_M_settle 96 = .ok (.iconst 1, 1) := by decide +kernel
theorem kd_M_settle_97 : decode kb_M_settle 97 = .ok (.isub, 1) := by decide +kernel
theorem kd_M_settle_98 : decode kb_M_settle 98 = .ok (.iaload, 1) := by decide +kernel
theorem kd_M_settle_99 : decode kb_M_settle 99 = .ok (.iastore, 1) := by decide +kernel
theorem kd_M_settle_100 : decode kb_M_settle 100 = .ok (.aload_n 0, 1) := by decide +kernel
theorem kd_M_settle_101 : decode kb_M_settle 101 = .ok (.getfield 16, 3) := by decide +kernel
theorem kd_M_settle_104 : decode kb_M_settle 104 = .ok (.iload_n 3, 1) := by decide +kernel
theorem kd_M_settle_105 : decode kb_M_settle 105 = .ok (.iconst 1, 1) := by decide +kernel
theorem kd_M_settle_106 : decode kb_M_settle 106 = .ok (.isub, 1) := by decide +kernel
theorem kd_M_settle_107 : decode kb_M_settle 107 = .ok (.iload 4, 2) := by decide +kernel
theorem kd_M_settle_109 : decode kb_M_settle 109 = .ok (.iastore, 1) := by decide +kernel
theorem kd_M_settle_110 : decode kb_M_settle 110 = .ok (.iinc 3 (-1), 3) := by decide +kernel
theorem kd_M_settle_113 : decode kb_M_settle 113 = .ok (.goto (-93), 3) := by decide +kernel
theorem kd_M_settle_116 : decode kb_M_settle 116 = .ok (.iinc 2 1, 3) := by decide +kernel
theorem kd_M_settle_119 : decode kb_M_settle 119 = .ok (.goto (-117), 3) := by decide +kernel
theorem kd_M_settle_122 : decode kb_M_settle 122 = .ok (.return_, 1) := by decide +kernel
theorem kd_M_isMark_0 : decode kb_M_isMark 0 = .ok (.iload_n 0, 1) := by decide +kernel
theorem kd_M_isMark_1 : decode kb_M_isMark 1 = .ok (.bipush 104, 2) := by decide +kernel
theorem kd_M_isMark_3 : decode kb_M_isMark 3 = .ok (.bipush 111, 2) := by decide +kernel
theorem kd_M_isMark_5 : decode kb_M_isMark 5 = .ok (.invokestatic 29, 3) := by decide +kernel
theorem kd_M_isMark_8 : decode kb_M_isMark 8 = .ok (.ireturn, 1) := by decide +kernel
theorem kd_M_in_0 : decode kb_M_in 0 = .ok (.iload_n 0, 1) := by decide +kernel
theorem kd_M_in_1 : decode kb_M_in 1 = .ok (.iload_n 1, 1) := by decide +kernel
theorem kd_M_in_2 : decode kb_M_in 2 = .ok (.if_icmp .lt 12, 3) := by decide +kernel
theorem kd_M_in_5 : decode kb_M_in 5 = .ok (.iload_n 0, 1) := by decide +kernel
theorem kd_M_in_6 : decode kb_M_in 6 = .ok (.iload_n 2, 1) := by decide +kernel
theorem kd_M_in_7 : decode kb_M_in 7 = .ok (.if_icmp .gt 7, 3) := by decide +kernel
theorem kd_M_in_10 : decode kb_M_in 10 = .ok (.iconst 1, 1) := by decide +kernel
theorem kd_M_in_11 : decode kb_M_in 11 = .ok (.goto 4, 3) := by decide +kernel
theorem kd_M_in_14 : decode kb_M_in 14 = .ok (.iconst 0, 1) := by decide +kernel
theorem kd_M_in_15 : decode kb_M_in 15 = .ok (.ireturn, 1) := by decide +kernel
theorem kd_M_classOf_0 : decode kb_M_classOf 0 = .ok (.iload_n 0, 1) := by decide +kernel
theorem kd_M_classOf_1 : decode kb_M_classOf 1 = .ok (.bipush 108, 2) := by decide +kernel
theorem kd_M_classOf_3 : decode kb_M_classOf 3 = .ok (.if_icmp .ge 7, 3) := by decide +kernel
theorem kd_M_classOf_6 : decode kb_M_classOf 6 = .ok (.iconst 1, 1) := by decide +kernel
theorem kd_M_classOf_7 : decode kb_M_classOf 7 = .ok (.goto 14, 3) := by decide +kernel
theorem kd_M_classOf_10 : decode kb_M_classOf 10 = .ok (.iload_n 0, 1) := by decide +kernel
theorem kd_M_classOf_11 : decode kb_M_classOf 11 = .ok (.bipush 110, 2) := by decide +kernel
theorem kd_M_classOf_13 : decode kb_M_classOf 13 = .ok (.if_icmp .ge 7, 3) := by decide +kernel
theorem kd_M_classOf_16 : decode kb_M_classOf 16 = .ok (.iconst 2, 1) := by decide +kernel
theorem kd_M_classOf_17 : decode kb_M_classOf 17 = .ok (.goto 4, 3) := by decide +kernel
theorem kd_M_classOf_20 : decode kb_M_classOf 20 = .ok (.iconst 3, 1) := by decide +kernel
theorem kd_M_classOf_21 : decode kb_M_classOf 21 = .ok (.ireturn, 1) := by decide +kernel
theorem kd_M_prototype_0 : decode kb_M_prototype 0 = .ok (.iload_n 0, 1) := by decide +kernel
theorem kd_M_prototype_1 : decode kb_M_prototype 1 = .ok (.istore_n 1, 1) := by decide +kernel
theorem kd_M_prototype_2 : decode kb_M_prototype 2 = .ok (.iload_n 0, 1) := by decide +kernel
theorem kd_M_prototype_3 : decode kb_M_prototype 3 = .ok (.bipush 16, 2) := by decide +kernel
theorem kd_M_prototype_5 : decode kb_M_prototype 5 = .ok (.bipush 30, 2) := by decide +kernel
theorem kd_M_prototype_7 : decode kb_M_prototype 7 = .ok (.invokestatic 29, 3) := by decide +kernel
theorem kd_M_prototype_10 : decode kb_M_prototype 10 = .ok (.ifCond .eq 14, 3) := by decide +kernel
theorem kd_M_prototype_13 : decode kb_M_prototype 13 = .ok (.iload_n 0, 1) := by decide +kernel
theorem kd_M_prototype_14 : decode kb_M_prototype 14 = .ok (.iconst 2, 1) := by decide +kernel
theorem kd_M_prototype_15 : decode kb_M_prototype 15 = .ok (.irem, 1) := by decide +kernel
theorem kd_M_prototype_16 : decode kb_M_prototype 16 = .ok (.ifCond .ne 8, 3) := by decide +kernel
theorem kd_M_prototype_19 : decode kb_M_prototype 19 = .ok (.iload_n 0, 1) := by decide +kernel
theorem kd_M_prototype_20 : decode kb_M_prototype 20 = .ok (.bipush 16, 2) := by decide +kernel
theorem kd_M_prototype_22 : decode kb_M_prototype 22 = .ok (.isub, 1) := by decide +kernel
theorem kd_M_prototype_23 : decode kb_M_prototype 23 = .ok (.istore_n 1, 1) := by decide +kernel
theorem kd_M_prototype_24 : decode kb_M_prototype 24 = .ok (.iload_n 0, 1) := by decide +kernel
theorem kd_M_prototype_25 : decode kb_M_prototype 25 = .ok (.bipush 32, 2) := by decide +kernel
theorem kd_M_prototype_27 : decode kb_M_prototype 27 = .ok (.bipush 47, 2) := by decide +kernel
theorem kd_M_prototype_29 : decode kb_M_prototype 29 = .ok (.invokestatic 29, 3) := by decide +kernel
theorem kd_M_prototype_32 : decode kb_M_prototype 32 = .ok (.ifCond .eq 17, 3) := by decide +kernel
theorem kd_M_prototype_35 : decode kb_M_prototype 35 = .ok (.iload_n 0, 1) := by decide +kernel
theorem kd_M_prototype_36 : decode kb_M_prototype 36 = .ok (.bipush 32, 2) := by decide +kernel
theorem kd_M_prototype_38 : decode kb_M_prototype 38 = .ok (.isub, 1) := by decide +kernel
theorem kd_M_prototype_39 : decode kb_M_prototype 39 = .ok (.iconst 3, 1) := by decide +kernel
theorem kd_M_prototype_40 : decode kb_M_prototype 40 = .ok (.irem, 1) := by decide +kernel
theorem kd_M_prototype_41 : decode kb_M_prototype 41 = .ok (.ifCond .ne 8, 3) := by decide +kernel
theorem kd_M_prototype_44 : decode kb_M_prototype 44 = .ok (.iload_n 0, 1) := by decide +kernel
theorem kd_M_prototype_45 : decode kb_M_prototype 45 = .ok (.bipush 32, 2) := by decide +kernel
theorem kd_M_prototype_47 : decode kb_M_prototype 47 = .ok (.isub, 1) := by decide +kernel
theorem kd_M_prototype_48 : decode kb_M_prototype 48 = .ok (.istore_n 1, 1) := by decide +kernel
theorem kd_M_prototype_49 : decode kb_M_prototype 49 = .ok (.iload_n 1, 1) := by decide +kernel
theorem kd_M_prototype_50 : decode kb_M_prototype 50 = .ok (.lookupswitch 128 #[(12, 98), (55, 102), (72, 108), (73, 108), (74, 108), (96, 117), (97, 121), (100, 117), (101, 121), (109, 125), (118, 105)], 98) := by decide +kernel
theorem kd_M_prototype_148 : decode kb_M_prototype 148 = .ok (.sipush 13016, 3) := by decide +kernel
theorem kd_M_prototype_151 : decode kb_M_prototype 151 = .ok (.ireturn, 1) := by decide +kernel
theorem kd_M_prototype_152 : decode kb_M_prototype 152 = .ok (.ldc 33, 2) := by decide +kernel
theorem kd_M_prototype_154 : decode kb_M_prototype 154 = .ok (.ireturn, 1) := by decide +kernel
theorem kd_M_prototype_155 : decode kb_M_prototype 155 = .ok (.ldc 34, 2) := by decide +kernel
theorem kd_M_prototype_157 : decode kb_M_prototype 157 = .ok (.ireturn, 1) := by decide +kernel
theorem kd_M_prototype_158 : decode kb_M_prototype 158 = .ok (.iload_n 1, 1) := by decide +kernel
theorem kd_M_prototype_159 : decode kb_M_prototype 159 = .ok (.bipush 24, 2) := by decide +kernel
theorem kd_M_prototype_161 : decode kb_M_prototype 161 = .ok (.isub, 1) := by decide +kernel
theorem kd_M_prototype_162 : decode kb_M_prototype 162 = .ok (.sipush 1000, 3) := by decide +kernel
theorem kd_M_prototype_165 : decode kb_M_prototype 165 = .ok (.imul, 1) := by decide +kernel
theorem kd_M_prototype_166 : decode kb_M_prototype 166 = .ok (.ireturn, 1) := by decide +kernel
theorem kd_M_prototype_167 : decode kb_M_prototype 167 = .ok (.sipush 14000, 3) := by decide +kernel
theorem kd_M_prototype_170 : decode kb_M_prototype 170 = .ok (.ireturn, 1) := by decide +kernel
theorem kd_M_prototype_171 : decode kb_M_prototype 171 = .ok (.sipush 11000, 3) := by decide +kernel
theorem kd_M_prototype_174 : decode kb_M_prototype 174 = .ok (.ireturn, 1) := by decide +kernel
theorem kd_M_prototype_175 : decode kb_M_prototype 175 = .ok (.ldc 35, 2) := by decide +kernel
theorem kd_M_prototype_177 : decode kb_M_prototype 177 = .ok (.ireturn, 1) := by decide +kernel
theorem kd_M_prototype_178 : decode kb_M_prototype 178 = .ok (.sipush 1000, 3) := by decide +kernel
theorem kd_M_prototype_181 : decode kb_M_prototype 181 = .ok (.iload_n 1, 1) := by decide +kernel
theorem kd_M_prototype_182 : decode kb_M_prototype 182 = .ok (.imul, 1) := by decide +kernel
theorem kd_M_prototype_183 : decode kb_M_prototype 183 = .ok (.ireturn, 1) := by decide +kernel
theorem kd_M_skeletonAt_0 : decode kb_M_skeletonAt 0 = .ok (.aload_n 0, 1) := by decide +kernel
theorem kd_M_skeletonAt_1 : decode kb_M_skeletonAt 1 = .ok (.iconst 0, 1) := by decide +kernel
theorem kd_M_skeletonAt_2 : decode kb_M_skeletonAt 2 = .ok (.putfield 25, 3) := by decide +kernel
theorem kd_M_skeletonAt_5 : decode kb_M_skeletonAt 5 = .ok (.aload_n 0, 1) := by decide +kernel
theorem kd_M_skeletonAt_6 : decode kb_M_skeletonAt 6 = .ok (.bipush 12, 2) := by decide +kernel
theorem kd_M_skeletonAt_8 : decode kb_M_skeletonAt 8 = .ok (.iconst 0, 1) := by decide +kernel
theorem kd_M_skeletonAt_9 : decode kb_M_skeletonAt 9 = .ok (.invokevirtual 59, 3) := by decide +kernel
theorem kd_M_skeletonAt_12 : decode kb_M_skeletonAt 12 = .ok (.iload_n 1, 1) := by decide +kernel
theorem kd_M_skeletonAt_13 : decode kb_M_skeletonAt 13 = .ok (.ifCond .lt 22, 3) := by decide +kernel
theorem kd_M_skeletonAt_16 : decode kb_M_skeletonAt 16 = .ok (.iload_n 1, 1) := by decide +kernel
theorem kd_M_skeletonAt_17 : decode kb_M_skeletonAt 17 = .ok (.aload_n 0, 1) := by decide +kernel
theorem kd_M_skeletonAt_18 : decode kb_M_skeletonAt 18 = .ok (.getfield 19, 3) := by decide +kernel
theorem kd_M_skeletonAt_21 : decode kb_M_skeletonAt 21 = .ok (.iconst 0, 1) := by decide +kernel
theorem kd_M_skeletonAt_22 : decode kb_M_skeletonAt 22 = .ok (.iaload, 1) := by decide +kernel
theorem kd_M_skeletonAt_23 : decode kb_M_skeletonAt 23 = .ok (.if_icmp .ge 12, 3) := by decide +kernel
theorem kd_M_skeletonAt_26 : decode kb_M_skeletonAt 26 = .ok (.aload_n 0, 1) := by decide +kernel
theorem kd_M_skeletonAt_27 : decode kb_M_skeletonAt 27 = .ok (.getfield 16, 3) := by decide +kernel
theorem kd_M_skeletonAt_30 : decode kb_M_skeletonAt 30 = .ok (.iload_n 1, 1) := by decide +kernel
theorem kd_M_skeletonAt_31 : decode kb_M_skeletonAt 31 = .ok (.iaload, 1) := by decide +kernel
theorem kd_M_skeletonAt_32 : decode kb_M_skeletonAt 32 = .ok (.goto 4, 3) := by decide +kernel
theorem kd_M_skeletonAt_35 : decode kb_M_skeletonAt 35 = .ok (.iconst (-1), 1) := by decide +kernel
theorem kd_M_skeletonAt_36 : decode kb_M_skeletonAt 36 = .ok (.ireturn, 1) := by decide +kernel
theorem kd_M_scripts_0 : decode kb_M_scripts 0 = .ok (.aload_n 0, 1) := by decide +kernel
theorem kd_M_scripts_1 : decode kb_M_scripts 1 = .ok (.iconst 0, 1) := by decide +kernel
theorem kd_M_scripts_2 : decode kb_M_scripts 2 = .ok (.putfield 25, 3) := by decide +kernel
theorem kd_M_scripts_5 : decode kb_M_scripts 5 = .ok (.aload_n 0, 1) := by decide +kernel
theorem kd_M_scripts_6 : decode kb_M_scripts 6 = .ok (.bipush 12, 2) := by decide +kernel
theorem kd_M_scripts_8 : decode kb_M_scripts 8 = .ok (.invokevirtual 80, 3) := by decide +kernel
theorem kd_M_scripts_11 : decode kb_M_scripts 11 = .ok (.ireturn, 1) := by decide +kernel
theorem kd_M_setOfText_0 : decode kb_M_setOfText 0 = .ok (.sipush 4095, 3) := by decide +kernel
theorem kd_M_setOfText_3 : decode kb_M_setOfText 3 = .ok (.istore_n 2, 1) := by decide +kernel
theorem kd_M_setOfText_4 : decode kb_M_setOfText 4 = .ok (.iconst 0, 1) := by decide +kernel
theorem kd_M_setOfText_5 : decode kb_M_setOfText 5 = .ok (.istore_n 3, 1) := by decide +kernel
theorem kd_M_setOfText_6 : decode kb_M_setOfText 6 = .ok (.iload_n 3, 1) := by decide +kernel
theorem kd_M_setOfText_7 : decode kb_M_setOfText 7 = .ok (.aload_n 0, 1) := by decide +kernel
theorem kd_M_setOfText_8 : decode kb_M_setOfText 8 = .ok (.getfield 13, 3) := by decide +kernel
theorem kd_M_setOfText_11 : decode kb_M_setOfText 11 = .ok (.iload_n 1, 1) := by decide +kernel
theorem kd_M_setOfText_12 : decode kb_M_setOfText 12 = .ok (.iaload, 1) := by decide +kernel
theorem kd_M_setOfText_13 : decode kb_M_setOfText 13 = .ok (.if_icmp .ge 26, 3) := by decide +kernel
theorem kd_M_setOfText_16 : decode kb_M_setOfText 16 = .ok (.iload_n 2, 1) := by decide +kernel
theorem kd_M_setOfText_17 : decode kb_M_setOfText 17 = .ok (.aload_n 0, 1) := by decide +kernel
theorem kd_M_setOfText_18 : decode kb_M_setOfText 18 = .ok (.getfield 7, 3) := by decide +kernel
theorem kd_M_setOfText_21 : decode kb_M_setOfText 21 = .ok (.bipush 48, 2) := by decide +kernel
theorem kd_M_setOfText_23 : decode kb_M_setOfText 23 = .ok (.iload_n 1, 1) := by decide +kernel
theorem kd_M_setOfText_24 : decode kb_M_setOfText 24 = .ok (.imul, 1) := by decide +kernel
theorem kd_M_setOfText_25 : decode kb_M_setOfText 25 = .ok (.iload_n 3, 1) := by decide +kernel
theorem kd_M_setOfText_26 : decode kb_M_setOfText 26 = .ok (.iadd, 1) := by decide +kernel
theorem kd_M_setOfText_27 : decode kb_M_setOfText 27 = .ok (.iaload, 1) := by decide +kernel
theorem kd_M_setOfText_28 : decode kb_M_setOfText 28 = .ok (.invokestatic 70, 3) := by decide +kernel
theorem kd_M_setOfText_31 : decode kb_M_setOfText 31 = .ok (.iand, 1) := by decide +kernel
theorem kd_M_setOfText_32 : decode kb_M_setOfText 32 = .ok (.istore_n 2, 1) := by decide +kernel
theorem kd_M_setOfText_33 : decode kb_M_setOfText 33 = .ok (.iinc 3 1, 3) := by decide +kernel
theorem kd_M_setOfText_36 : decode kb_M_setOfText 36 = .ok (.goto (-30), 3) := by decide +kernel
theorem kd_M_setOfText_39 : decode kb_M_setOfText 39 = .ok (.iload_n 2, 1) := by decide +kernel
theorem kd_M_setOfText_40 : decode kb_M_setOfText 40 = .ok (.ireturn, 1) := by decide +kernel
theorem kd_M_setOf_0 : decode kb_M_setOf 0 = .ok (.iload_n 0, 1) := by decide +kernel
theorem kd_M_setOf_1 : decode kb_M_setOf 1 = .ok (.bipush 16, 2) := by decide +kernel
theorem kd_M_setOf_3 : decode kb_M_setOf 3 = .ok (.if_icmp .lt 9, 3) := by decide +kernel
theorem kd_M_setOf_6 : decode kb_M_setOf 6 = .ok (.iload_n 0, 1) := by decide +kernel
theorem kd_M_setOf_7 : decode kb_M_setOf 7 = .ok (.bipush 123, 2) := by decide +kernel
theorem kd_M_setOf_9 : decode kb_M_setOf 9 = .ok (.if_icmp .le 5, 3) := by decide +kernel
theorem kd_M_setOf_12 : decode kb_M_setOf 12 = .ok (.iconst 1, 1) := by decide +kernel
theorem kd_M_setOf_13 : decode kb_M_setOf 13 = .ok (.ireturn, 1) := by decide +kernel
theorem kd_M_setOf_14 : decode kb_M_setOf 14 = .ok (.iload_n 0, 1) := by decide +kernel
theorem kd_M_setOf_15 : decode kb_M_setOf 15 = .ok (.bipush 48, 2) := by decide +kernel
theorem kd_M_setOf_17 : decode kb_M_setOf 17 = .ok (.if_icmp .ge 15, 3) := by decide +kernel
theorem kd_M_setOf_20 : decode kb_M_setOf 20 = .ok (.iload_n 0, 1) := by decide +kernel
theorem kd_M_setOf_21 : decode kb_M_setOf 21 = .ok (.bipush 32, 2) := by decide +kernel
theorem kd_M_setOf_23 : decode kb_M_setOf 23 = .ok (.if_icmp .ge 7, 3) := by decide +kernel
theorem kd_M_setOf_26 : decode kb_M_setOf 26 = .ok (.iconst 2, 1) := by decide +kernel
theorem kd_M_setOf_27 : decode kb_M_setOf 27 = .ok (.goto 4, 3) := by decide +kernel
theorem kd_M_setOf_30 : decode kb_M_setOf 30 = .ok (.iconst 4, 1) := by decide +kernel
theorem kd_M_setOf_31 : decode kb_M_setOf 31 = .ok (.ireturn, 1) := by decide +kernel
theorem kd_M_setOf_32 : decode kb_M_setOf 32 = .ok (.iload_n 0, 1) := by decide +kernel
theorem kd_M_setOf_33 : decode kb_M_setOf 33 = .ok (.bipush 64, 2) := by decide +kernel
theorem kd_M_setOf_35 : decode kb_M_setOf 35 = .ok (.if_icmp .ge 7, 3) := by decide +kernel
theorem kd_M_setOf_38 : decode kb_M_setOf 38 = .ok (.sipush 3592, 3) := by decide +kernel
theorem kd_M_setOf_41 : decode kb_M_setOf 41 = .ok (.ireturn, 1) := by decide +kernel
theorem kd_M_setOf_42 : decode kb_M_setOf 42 = .ok (.iload_n 0, 1) := by decide +kernel
theorem kd_M_setOf_43 : decode kb_M_setOf 43 = .ok (.bipush 80, 2) := by decide +kernel
theorem kd_M_setOf_45 : decode kb_M_setOf 45 = .ok (.if_icmp .ge 21, 3) := by decide +kernel
theorem kd_M_setOf_48 : decode kb_M_setOf 48 = .ok (.iload_n 0, 1) := by decide +kernel
theorem kd_M_setOf_49 : decode kb_M_setOf 49 = .ok (.bipush 72, 2) := by decide +kernel
theorem kd_M_setOf_51 : decode kb_M_setOf 51 = .ok (.if_icmp .ge 8, 3) := by decide +kernel
theorem kd_M_setOf_54 : decode kb_M_setOf 54 = .ok (.bipush 16, 2) := by decide +kernel
theorem kd_M_setOf_56 : decode kb_M_setOf 56 = .ok (.goto 5, 3) := by decide +kernel
theorem kd_M_setOf_59 : decode kb_M_setOf 59 = .ok (.bipush 32, 2) := by decide +kernel
theorem kd_M_setOf_61 : decode kb_M_setOf 61 = .ok (.sipush 1024, 3) := by decide +kernel
theorem kd_M_setOf_64 : decode kb_M_setOf 64 = .ok (.iadd, 1) := by decide +kernel
theorem kd_M_setOf_65 : decode kb_M_setOf 65 = .ok (.ireturn, 1) := by decide +kernel
theorem kd_M_setOf_66 : decode kb_M_setOf 66 = .ok (.iload_n 0, 1) := by decide +kernel
theorem kd_M_setOf_67 : decode kb_M_setOf 67 = .ok (.bipush 96, 2) := by decide +kernel
theorem kd_M_setOf_69 : decode kb_M_setOf 69 = .ok (.if_icmp .ge 19, 3) := by decide +kernel
theorem kd_M_setOf_72 : decode kb_M_setOf 72 = .ok (.iload_n 0, 1) := by decide +kernel
theorem kd_M_setOf_73 : decode kb_M_setOf 73 = .ok (.bipush 88, 2) := by decide +kernel
theorem kd_M_setOf_75 : decode kb_M_setOf 75 = .ok (.if_icmp .ge 9, 3) := by decide +kernel
theorem kd_M_setOf_78 : decode kb_M_setOf 78 = .ok (.sipush 2112, 3) := by decide +kernel
theorem kd_M_setOf_81 : decode kb_M_setOf 81 = .ok (.goto 6, 3) := by decide +kernel
theorem kd_M_setOf_84 : decode kb_M_setOf 84 = .ok (.sipush 640, 3) := by decide +kernel
theorem kd_M_setOf_87 : decode kb_M_setOf 87 = .ok (.ireturn, 1) := by decide +kernel
theorem kd_M_setOf_88 : decode kb_M_setOf 88 = .ok (.iload_n 0, 1) := by decide +kernel
theorem kd_M_setOf_89 : decode kb_M_setOf 89 = .ok (.bipush 100, 2) := by decide +kernel
theorem kd_M_setOf_91 : decode kb_M_setOf 91 = .ok (.bipush 103, 2) := by decide +kernel
theorem kd_M_setOf_93 : decode kb_M_setOf 93 = .ok (.invokestatic 29, 3) := by decide +kernel
theorem kd_M_setOf_96 : decode kb_M_setOf 96 = .ok (.ifCond .eq 9, 3) := by decide +kernel
theorem kd_M_setOf_99 : decode kb_M_setOf 99 = .ok (.sipush 256, 3) := by decide +kernel
theorem kd_M_setOf_102 : decode kb_M_setOf 102 = .ok (.goto 6, 3) := by decide +kernel
theorem kd_M_setOf_105 : decode kb_M_setOf 105 = .ok (.sipush 4095, 3) := by decide +kernel
theorem kd_M_setOf_108 : decode kb_M_setOf 108 = .ok (.ireturn, 1) := by decide +kernel
theorem kd_M_level_0 : decode kb_M_level 0 = .ok (.aload_n 0, 1) := by decide +kernel
theorem kd_M_level_1 : decode kb_M_level 1 = .ok (.iconst 0, 1) := by decide +kernel
theorem kd_M_level_2 : decode kb_M_level 2 = .ok (.putfield 25, 3) := by decide +kernel
theorem kd_M_level_5 : decode kb_M_level 5 = .ok (.aload_n 0, 1) := by decide +kernel
theorem kd_M_level_6 : decode kb_M_level 6 = .ok (.bipush 115, 2) := by decide +kernel
theorem kd_M_level_8 : decode kb_M_level 8 = .ok (.bipush 123, 2) := by decide +kernel
theorem kd_M_level_10 : decode kb_M_level 10 = .ok (.invokevirtual 83, 3) := by decide +kernel
theorem kd_M_level_13 : decode kb_M_level 13 = .ok (.ifCond .le 6, 3) := by decide +kernel
theorem kd_M_level_16 : decode kb_M_level 16 = .ok (.bipush 6, 2) := by decide +kernel
theorem kd_M_level_18 : decode kb_M_level 18 = .ok (.ireturn, 1) := by decide +kernel
theorem kd_M_level_19 : decode kb_M_level 19 = .ok (.aload_n 0, 1) := by decide +kernel
theorem kd_M_level_20 : decode kb_M_level 20 = .ok (.iconst 0, 1) := by decide +kernel
theorem kd_M_level_21 : decode kb_M_level 21 = .ok (.bipush 15, 2) := by decide +kernel
theorem kd_M_level_23 : decode kb_M_level 23 = .ok (.invokevirtual 83, 3) := by decide +kernel
theorem kd_M_level_26 : decode kb_M_level 26 = .ok (.aload_n 0, 1) := by decide +kernel
theorem kd_M_level_27 : decode kb_M_level 27 = .ok (.bipush 96, 2) := by decide +kernel
theorem kd_M_level_29 : decode kb_M_level 29 = .ok (.bipush 99, 2) := by decide +kernel
theorem kd_M_level_31 : decode kb_M_level 31 = .ok (.invokevirtual 83, 3) := by decide +kernel
theorem kd_M_level_34 : decode kb_M_level 34 = .ok (.iadd, 1) := by decide +kernel
theorem kd_M_level_35 : decode kb_M_level 35 = .ok (.aload_n 0, 1) := by decide +kernel
theorem kd_M_level_36 : decode kb_M_level 36 = .ok (.bipush 112, 2) := by decide +kernel
theorem kd_M_level_38 : decode kb_M_level 38 = .ok (.bipush 114, 2) := by decide +kernel
theorem kd_M_level_40 : decode kb_M_level 40 = .ok (.invokevirtual 83, 3) := by decide +kernel
theorem kd_M_level_43 : decode kb_M_level 43 = .ok (.iadd, 1) := by decide +kernel
theorem kd_M_level_44 : decode kb_M_level 44 = .ok (.aload_n 0, 1) := by decide +kernel
theorem kd_M_level_45 : decode kb_M_level 45 = .ok (.getfield 13, 3) := by decide +kernel
theorem kd_M_level_48 : decode kb_M_level 48 = .ok (.bipush 12, 2) := by decide +kernel
theorem kd_M_level_50 : decode kb_M_level 50 = .ok (.iaload, 1) := by decide +kernel
theorem kd_M_level_51 : decode kb_M_level 51 = .ok (.if_icmp .ne 5, 3) := by decide +kernel
theorem kd_M_level_54 : decode kb_M_level 54 = .ok (.iconst 1, 1) := by decide +kernel
theorem kd_M_level_55 : decode kb_M_level 55 = .ok (.ireturn, 1) := by decide +kernel
theorem kd_M_level_56 : decode kb_M_level 56 = .ok (.aload_n 0, 1) := by decide +kernel
theorem kd_M_level_57 : decode kb_M_level 57 = .ok (.bipush 12, 2) := by decide +kernel
theorem kd_M_level_59 : decode kb_M_level 59 = .ok (.invokevirtual 80, 3) := by decide +kernel
theorem kd_M_level_62 : decode kb_M_level 62 = .ok (.ifCond .eq 5, 3) := by decide +kernel
theorem kd_M_level_65 : decode kb_M_level 65 = .ok (.iconst 2, 1) := by decide +kernel
theorem kd_M_level_66 : decode kb_M_level 66 = .ok (.ireturn, 1) := by decide +kernel
theorem kd_M_level_67 : decode kb_M_level 67 = .ok (.aload_n 0, 1) := by decide +kernel
theorem kd_M_level_68 : decode kb_M_level 68 = .ok (.sipush 512, 3) := by decide +kernel
theorem kd_M_level_71 : decode kb_M_level 71 = .ok (.invokevirtual 86, 3) := by decide +kernel
theorem kd_M_level_74 : decode kb_M_level 74 = .ok (.ifCond .ne 23, 3) := by decide +kernel
theorem kd_M_level_77 : decode kb_M_level 77 = .ok (.aload_n 0, 1) := by decide +kernel
theorem kd_M_level_78 : decode kb_M_level 78 = .ok (.sipush 1024, 3) := by decide +kernel
theorem kd_M_level_81 : decode kb_M_level 81 = .ok (.invokevirtual 86, 3) := by decide +kernel
theorem kd_M_level_84 : decode kb_M_level 84 = .ok (.ifCond .ne 13, 3) := by decide +kernel
theorem kd_M_level_87 : decode kb_M_level 87 = .ok (.aload_n 0, 1) := by decide +kernel
theorem kd_M_level_88 : decode kb_M_level 88 = .ok (.sipush 2048, 3) := by decide +kernel
theorem kd_M_level_91 : decode kb_M_level 91 = .ok (.invokevirtual 86, 3) := by decide +kernel
theorem kd_M_level_94 : decode kb_M_level 94 = .ok (.ifCond .eq 5, 3) := by decide +kernel
theorem kd_M_level_97 : decode kb_M_level 97 = .ok (.iconst 3, 1) := by decide +kernel
theorem kd_M_level_98 : decode kb_M_level 98 = .ok (.ireturn, 1) := by decide +kernel
theorem kd_M_level_99 : decode kb_M_level 99 = .ok (.aload_n 0, 1) := by decide +kernel
theorem kd_M_level_100 : decode kb_M_level 100 = .ok (.bipush 8, 2) := by decide +kernel
theorem kd_M_level_102 : decode kb_M_level 102 = .ok (.invokevirtual 86, 3) := by decide +kernel
theorem kd_M_level_105 : decode kb_M_level 105 = .ok (.ifCond .ne 50, 3) := by decide +kernel
theorem kd_M_level_108 : decode kb_M_level 108 = .ok (.aload_n 0, 1) := by decide +kernel
theorem kd_M_level_109 : decode kb_M_level 109 = .ok (.bipush 16, 2) := by decide +kernel
theorem kd_M_level_111 : decode kb_M_level 111 = .ok (.invokevirtual 86, 3) := by decide +kernel
theorem kd_M_level_114 : decode kb_M_level 114 = .ok (.ifCond .ne 41, 3) := by decide +kernel
theorem kd_M_level_117 : decode kb_M_level 117 = .ok (.aload_n 0, 1) := by decide +kernel
theorem kd_M_level_118 : decode kb_M_level 118 = .ok (.bipush 32, 2) := by decide +kernel
theorem kd_M_level_120 : decode kb_M_level 120 = .ok (.invokevirtual 86, 3) := by decide +kernel
theorem kd_M_level_123 : decode kb_M_level 123 = .ok (.ifCond .ne 32, 3) := by decide +kernel
theorem kd_M_level_126 : decode kb_M_level 126 = .ok (.aload_n 0, 1) := by decide +kernel
theorem kd_M_level_127 : decode kb_M_level 127 = .ok (.bipush 64, 2) := by decide +kernel
theorem kd_M_level_129 : decode kb_M_level 129 = .ok (.invokevirtual 86, 3) := by decide +kernel
theorem kd_M_level_132 : decode kb_M_level 132 = .ok (.ifCond .ne 23, 3) := by decide +kernel
theorem kd_M_level_135 : decode kb_M_level 135 = .ok (.aload_n 0, 1) := by decide +kernel
theorem kd_M_level_136 : decode kb_M_level 136 = .ok (.sipush 128, 3) := by decide +kernel
theorem kd_M_level_139 : decode kb_M_level 139 = .ok (.invokevirtual 86, 3) := by decide +kernel
theorem kd_M_level_142 : decode kb_M_level 142 = .ok (.ifCond .ne 13, 3) := by decide +kernel
theorem kd_M_level_145 : decode kb_M_level 145 = .ok (.aload_n 0, 1) := by decide +kernel
theorem kd_M_level_146 : decode kb_M_level 146 = .ok (.sipush 256, 3) := by decide +kernel
theorem kd_M_level_149 : decode kb_M_level 149 = .ok (.invokevirtual 86, 3) := by decide +kernel
theorem kd_M_level_152 : decode kb_M_level 152 = .ok (.ifCond .eq 7, 3) := by decide +kernel
theorem kd_M_level_155 : decode kb_M_level 155 = .ok (.iconst 1, 1) := by decide +kernel
theorem kd_M_level_156 : decode kb_M_level 156 = .ok (.goto 4, 3) := by decide +kernel
theorem kd_M_level_159 : decode kb_M_level 159 = .ok (.iconst 0, 1) := by decide +kernel
theorem kd_M_level_160 : decode kb_M_level 160 = .ok (.istore_n 1, 1) := by decide +kernel
theorem kd_M_level_161 : decode kb_M_level 161 = .ok (.iload_n 1, 1) := by decide +kernel
theorem kd_M_level_162 : decode kb_M_level 162 = .ok (.ifCond .eq 7, 3) := by decide +kernel
theorem kd_M_level_165 : decode kb_M_level 165 = .ok (.iconst 4, 1) := by decide +kernel
theorem kd_M_level_166 : decode kb_M_level 166 = .ok (.goto 4, 3) := by decide +kernel
theorem kd_M_level_169 : decode kb_M_level 169 = .ok (.iconst 5, 1) := by decide +kernel
theorem kd_M_level_170 : decode kb_M_level 170 = .ok (.ireturn, 1) := by decide +kernel
theorem kd_M_many_0 : decode kb_M_many 0 = .ok (.iconst 0, 1) := by decide +kernel
theorem kd_M_many_1 : decode kb_M_many 1 = .ok (.istore_n 3, 1) := by decide +kernel
theorem kd_M_many_2 : decode kb_M_many 2 = .ok (.iconst 0, 1) := by decide +kernel
theorem kd_M_many_3 : decode kb_M_many 3 = .ok (.istore 4, 2) := by decide +kernel
theorem kd_M_many_5 : decode kb_M_many 5 = .ok (.iload 4, 2) := by decide +kernel
theorem kd_M_many_7 : decode kb_M_many 7 = .ok (.aload_n 0, 1) := by decide +kernel
theorem kd_M_many_8 : decode kb_M_many 8 = .ok (.getfield 13, 3) := by decide +kernel
theorem kd_M_many_11 : decode kb_M_many 11 = .ok (.bipush 12, 2) := by decide +kernel
theorem kd_M_many_13 : decode kb_M_many 13 = .ok (.iaload, 1) := by decide +kernel
theorem kd_M_many_14 : decode kb_M_many 14 = .ok (.if_icmp .ge 36, 3) := by decide +kernel
theorem kd_M_many_17 : decode kb_M_many 17 = .ok (.aload_n 0, 1) := by decide +kernel
theorem kd_M_many_18 : decode kb_M_many 18 = .ok (.getfield 7, 3) := by decide +kernel
theorem kd_M_many_21 : decode kb_M_many 21 = .ok (.sipush 576, 3) := by decide +kernel
theorem kd_M_many_24 : decode kb_M_many 24 = .ok (.iload 4, 2) := by decide +kernel
theorem kd_M_many_26 : decode kb_M_many 26 = .ok (.iadd, 1) := by decide +kernel
theorem kd_M_many_27 : decode kb_M_many 27 = .ok (.iaload, 1) := by decide +kernel
theorem kd_M_many_28 : decode kb_M_many 28 = .ok (.iload_n 1, 1) := by decide +kernel
theorem kd_M_many_29 : decode kb_M_many 29 = .ok (.iload_n 2, 1) := by decide +kernel
theorem kd_M_many_30 : decode kb_M_many 30 = .ok (.invokestatic 29, 3) := by decide +kernel
theorem kd_M_many_33 : decode kb_M_many 33 = .ok (.ifCond .eq 9, 3) := by decide +kernel
theorem kd_M_many_36 : decode kb_M_many 36 = .ok (.iload_n 3, 1) := by decide +kernel
theorem kd_M_many_37 : decode kb_M_many 37 = .ok (.iconst 1, 1) := by decide +kernel
theorem kd_M_many_38 : decode kb_M_many 38 = .ok (.iadd, 1) := by decide +kernel
theorem kd_M_many_39 : decode kb_M_many 39 = .ok (.goto 4, 3) := by decide +kernel
theorem kd_M_many_42 : decode kb_M_many 42 = .ok (.iload_n 3, 1) := by decide +kernel
theorem kd_M_many_43 : decode kb_M_many 43 = .ok (.istore_n 3, 1) := by decide +kernel
theorem kd_M_many_44 : decode kb_M_many 44 = .ok (.iinc 4 1, 3) := by decide +kernel
theorem kd_M_many_47 : decode kb_M_many 47 = .ok (.goto (-42), 3) := by decide +kernel
theorem kd_M_many_50 : decode kb_M_many 50 = .ok (.iload_n 3, 1) := by decide +kernel
theorem kd_M_many_51 : decode kb_M_many 51 = .ok (.ireturn, 1) := by decide +kernel
theorem kd_M_isCovered_0 : decode kb_M_isCovered 0 = .ok (.iconst 1, 1) := by decide +kernel
theorem kd_M_isCovered_1 : decode kb_M_isCovered 1 = .ok (.istore_n 2, 1) := by decide +kernel
theorem kd_M_isCovered_2 : decode kb_M_isCovered 2 = .ok (.iconst 0, 1) := by decide +kernel
theorem kd_M_isCovered_3 : decode kb_M_isCovered 3 = .ok (.istore_n 3, 1) := by decide +kernel
theorem kd_M_isCovered_4 : decode kb_M_isCovered 4 = .ok (.iload_n 3, 1) := by decide +kernel
theorem kd_M_isCovered_5 : decode kb_M_isCovered 5 = .ok (.aload_n 0, 1) := by decide +kernel
theorem kd_M_isCovered_6 : decode kb_M_isCovered 6 = .ok (.getfield 13, 3) := by decide +kernel
theorem kd_M_isCovered_9 : decode kb_M_isCovered 9 = .ok (.bipush 12, 2) := by decide +kernel
theorem kd_M_isCovered_11 : decode kb_M_isCovered 11 = .ok (.iaload, 1) := by decide +kernel
theorem kd_M_isCovered_12 : decode kb_M_isCovered 12 = .ok (.if_icmp .ge 39, 3) := by decide +kernel
theorem kd_M_isCovered_15 : decode kb_M_isCovered 15 = .ok (.iload_n 2, 1) := by decide +kernel
theorem kd_M_isCovered_16 : decode kb_M_isCovered 16 = .ok (.ifCond .eq 27, 3) := by decide +kernel
theorem kd_M_isCovered_19 : decode kb_M_isCovered 19 = .ok (.aload_n 0, 1) := by decide +kernel
theorem kd_M_isCovered_20 : decode kb_M_isCovered 20 = .ok (.getfield 7, 3) := by decide +kernel
theorem kd_M_isCovered_23 : decode kb_M_isCovered 23 = .ok (.sipush 576, 3) := by decide +kernel
theorem kd_M_isCovered_26 : decode kb_M_isCovered 26 = .ok (.iload_n 3, 1) := by decide +kernel
theorem kd_M_isCovered_27 : decode kb_M_isCovered 27 = .ok (.iadd, 1) := by decide +kernel
theorem kd_M_isCovered_28 : decode kb_M_isCovered 28 = .ok (.iaload, 1) := by decide +kernel
theorem kd_M_isCovered_29 : decode kb_M_isCovered 29 = .ok (.invokestatic 70, 3) := by decide +kernel
theorem kd_M_isCovered_32 : decode kb_M_isCovered 32 = .ok (.iload_n 1, 1) := by decide +kernel
theorem kd_M_isCovered_33 : decode kb_M_isCovered 33 = .ok (.iconst 1, 1) := by decide +kernel
theorem kd_M_isCovered_34 : decode kb_M_isCovered 34 = .ok (.ior, 1) := by decide +kernel
theorem kd_M_isCovered_35 : decode kb_M_isCovered 35 = .ok (.iand, 1) := by decide +kernel
theorem kd_M_isCovered_36 : decode kb_M_isCovered 36 = .ok (.ifCond .eq 7, 3) := by decide +kernel
theorem kd_M_isCovered_39 : decode kb_M_isCovered 39 = .ok (.iconst 1, 1) := by decide +kernel
theorem kd_M_isCovered_40 : decode kb_M_isCovered 40 = .ok (.goto 4, 3) := by decide +kernel
theorem kd_M_isCovered_43 : decode kb_M_isCovered 43 = .ok (.iconst 0, 1) := by decide +kernel
theorem kd_M_isCovered_44 : decode kb_M_isCovered 44 = .ok (.istore_n 2, 1) := by decide +kernel
theorem kd_M_isCovered_45 : decode kb_M_isCovered 45 = .ok (.iinc 3 1, 3) := by decide +kernel
theorem kd_M_isCovered_48 : decode kb_M_isCovered 48 = .ok (.goto (-44), 3) := by decide +kernel
theorem kd_M_isCovered_51 : decode kb_M_isCovered 51 = .ok (.iload_n 2, 1) := by decide +kernel
theorem kd_M_isCovered_52 : decode kb_M_isCovered 52 = .ok (.ireturn, 1) := by decide +kernel
theorem kd_M_odd_0 : decode kb_M_odd 0 = .ok (.aload_n 0, 1) := by decide +kernel
theorem kd_M_odd_1 : decode kb_M_odd 1 = .ok (.iconst 0, 1) := by decide +kernel
theorem kd_M_odd_2 : decode kb_M_odd 2 = .ok (.putfield 25, 3) := by decide +kernel
theorem kd_M_odd_5 : decode kb_M_odd 5 = .ok (.aload_n 0, 1) := by decide +kernel
theorem kd_M_odd_6 : decode kb_M_odd 6 = .ok (.bipush 12, 2) := by decide +kernel
theorem kd_M_odd_8 : decode kb_M_odd 8 = .ok (.iconst 0, 1) := by decide +kernel
theorem kd_M_odd_9 : decode kb_M_odd 9 = .ok (.iconst 1, 1) := by decide +kernel
theorem kd_M_odd_10 : decode kb_M_odd 10 = .ok (.invokevirtual 52, 3) := by decide +kernel
theorem kd_M_odd_13 : decode kb_M_odd 13 = .ok (.iconst 0, 1) := by decide +kernel
theorem kd_M_odd_14 : decode kb_M_odd 14 = .ok (.istore_n 1, 1) := by decide +kernel
theorem kd_M_odd_15 : decode kb_M_odd 15 = .ok (.iconst 0, 1) := by decide +kernel
theorem kd_M_odd_16 : decode kb_M_odd 16 = .ok (.istore_n 2, 1) := by decide +kernel
theorem kd_M_odd_17 : decode kb_M_odd 17 = .ok (.iconst 0, 1) := by decide +kernel
theorem kd_M_odd_18 : decode kb_M_odd 18 = .ok (.istore_n 3, 1) := by decide +kernel
theorem kd_M_odd_19 : decode kb_M_odd 19 = .ok (.iload_n 3, 1) := by decide +kernel
theorem kd_M_odd_20 : decode kb_M_odd 20 = .ok (.aload_n 0, 1) := by decide +kernel
theorem kd_M_odd_21 : decode kb_M_odd 21 = .ok (.getfield 19, 3) := by decide +kernel
theorem kd_M_odd_24 : decode kb_M_odd 24 = .ok (.iconst 0, 1) := by decide +kernel
theorem kd_M_odd_25 : decode kb_M_odd 25 = .ok (.iaload, 1) := by decide +kernel
theorem kd_M_odd_26 : decode kb_M_odd 26 = .ok (.if_icmp .ge 99, 3) := by decide +kernel
theorem kd_M_odd_29 : decode kb_M_odd 29 = .ok (.iload_n 3, 1) := by decide +kernel
theorem kd_M_odd_30 : decode kb_M_odd 30 = .ok (.ifCond .ne 8, 3) := by decide +kernel
theorem kd_M_odd_33 : decode kb_M_odd 33 = .ok (.bipush 112, 2) := by decide +kernel
theorem kd_M_odd_35 : decode kb_M_odd 35 = .ok (.goto 11, 3) := by decide +kernel
theorem kd_M_odd_38 : decode kb_M_odd 38 = .ok (.aload_n 0, 1) := by decide +kernel
theorem kd_M_odd_39 : decode kb_M_odd 39 = .ok (.getfield 16, 3) := by decide +kernel
theorem kd_M_odd_42 : decode kb_M_odd 42 = .ok (.iload_n 3, 1) := by decide +kernel
theorem kd_M_odd_43 : decode kb_M_odd 43 = .ok (.iconst 1, 1) := by decide +kernel
theorem kd_M_odd_44 : decode kb_M_odd 44 = .ok (.isub, 1) := by decide +kernel
theorem kd_M_odd_45 : decode kb_M_odd 45 = .ok (.iaload, 1) := by decide +kernel
theorem kd_M_odd_46 : decode kb_M_odd 46 = .ok (.istore 4, 2) := by decide +kernel
theorem kd_M_odd_48 : decode kb_M_odd 48 = .ok (.iload_n 1, 1) := by decide +kernel
theorem kd_M_odd_49 : decode kb_M_odd 49 = .ok (.ifCond .ne 26, 3) := by decide +kernel
theorem kd_M_odd_52 : decode kb_M_odd 52 = .ok (.aload_n 0, 1) := by decide +kernel
theorem kd_M_odd_53 : decode kb_M_odd 53 = .ok (.getfield 16, 3) := by decide +kernel
theorem kd_M_odd_56 : decode kb_M_odd 56 = .ok (.iload_n 3, 1) := by decide +kernel
theorem kd_M_odd_57 : decode kb_M_odd 57 = .ok (.iaload, 1) := by decide +kernel
theorem kd_M_odd_58 : decode kb_M_odd 58 = .ok (.invokestatic 36, 3) := by decide +kernel
theorem kd_M_odd_61 : decode kb_M_odd 61 = .ok (.ifCond .eq 18, 3) := by decide +kernel
theorem kd_M_odd_64 : decode kb_M_odd 64 = .ok (.aload_n 0, 1) := by decide +kernel
theorem kd_M_odd_65 : decode kb_M_odd 65 = .ok (.getfield 16, 3) := by decide +kernel
theorem kd_M_odd_68 : decode kb_M_odd 68 = .ok (.iload_n 3, 1) := by decide +kernel
theorem kd_M_odd_69 : decode kb_M_odd 69 = .ok (.iaload, 1) := by decide +kernel
theorem kd_M_odd_70 : decode kb_M_odd 70 = .ok (.iload 4, 2) := by decide +kernel
theorem kd_M_odd_72 : decode kb_M_odd 72 = .ok (.if_icmp .ne 7, 3) := by decide +kernel
theorem kd_M_odd_75 : decode kb_M_odd 75 = .ok (.iconst 1, 1) := by decide +kernel
theorem kd_M_odd_76 : decode kb_M_odd 76 = .ok (.goto 4, 3) := by decide +kernel
theorem kd_M_odd_79 : decode kb_M_odd 79 = .ok (.iconst 0, 1) := by decide +kernel
theorem kd_M_odd_80 : decode kb_M_odd 80 = .ok (.istore_n 1, 1) := by decide +kernel
theorem kd_M_odd_81 : decode kb_M_odd 81 = .ok (.iload_n 2, 1) := by decide +kernel
theorem kd_M_odd_82 : decode kb_M_odd 82 = .ok (.ifCond .ne 31, 3) := by decide +kernel
theorem kd_M_odd_85 : decode kb_M_odd 85 = .ok (.aload_n 0, 1) := by decide +kernel
theorem kd_M_odd_86 : decode kb_M_odd 86 = .ok (.getfield 16, 3) := by decide +kernel
theorem kd_M_odd_89 : decode kb_M_odd 89 = .ok (.iload_n 3, 1) := by decide +kernel
theorem kd_M_odd_90 : decode kb_M_odd 90 = .ok (.iaload, 1) := by decide +kernel
theorem kd_M_odd_91 : decode kb_M_odd 91 = .ok (.invokestatic 36, 3) := by decide +kernel
theorem kd_M_odd_94 : decode kb_M_odd 94 = .ok (.ifCond .eq 23, 3) := by decide +kernel
theorem kd_M_odd_97 : decode kb_M_odd 97 = .ok (.iload 4, 2) := by decide +kernel
theorem kd_M_odd_99 : decode kb_M_odd 99 = .ok (.invokestatic 89, 3) := by decide +kernel
theorem kd_M_odd_102 : decode kb_M_odd 102 = .ok (.ifCond .ne 15, 3) := by decide +kernel
theorem kd_M_odd_105 : decode kb_M_odd 105 = .ok (.iload 4, 2) := by decide +kernel
theorem kd_M_odd_107 : decode kb_M_odd 107 = .ok (.invokestatic 36, 3) := by decide +kernel
theorem kd_M_odd_110 : decode kb_M_odd 110 = .ok (.ifCond .ne 7, 3) := by decide +kernel
theorem kd_M_odd_113 : decode kb_M_odd 113 = .ok (.iconst 1, 1) := by decide +kernel
theorem kd_M_odd_114 : decode kb_M_odd 114 = .ok (.goto 4, 3) := by decide +kernel
theorem kd_M_odd_117 : decode kb_M_odd 117 = .ok (.iconst 0, 1) := by decide +kernel
theorem kd_M_odd_118 : decode kb_M_odd 118 = .ok (.istore_n 2, 1) := by decide +kernel
theorem kd_M_odd_119 : decode kb_M_odd 119 = .ok (.iinc 3 1, 3) := by decide +kernel
theorem kd_M_odd_122 : decode kb_M_odd 122 = .ok (.goto (-103), 3) := by decide +kernel
theorem kd_M_odd_125 : decode kb_M_odd 125 = .ok (.aload_n 0, 1) := by decide +kernel
theorem kd_M_odd_126 : decode kb_M_odd 126 = .ok (.bipush 96, 2) := by decide +kernel
theorem kd_M_odd_128 : decode kb_M_odd 128 = .ok (.bipush 99, 2) := by decide +kernel
theorem kd_M_odd_130 : decode kb_M_odd 130 = .ok (.invokevirtual 83, 3) := by decide +kernel
theorem kd_M_odd_133 : decode kb_M_odd 133 = .ok (.ifCond .le 18, 3) := by decide +kernel
theorem kd_M_odd_136 : decode kb_M_odd 136 = .ok (.aload_n 0, 1) := by decide +kernel
theorem kd_M_odd_137 : decode kb_M_odd 137 = .ok (.bipush 100, 2) := by decide +kernel
theorem kd_M_odd_139 : decode kb_M_odd 139 = .ok (.bipush 103, 2) := by decide +kernel
theorem kd_M_odd_141 : decode kb_M_odd 141 = .ok (.invokevirtual 83, 3) := by decide +kernel
theorem kd_M_odd_144 : decode kb_M_odd 144 = .ok (.ifCond .le 7, 3) := by decide +kernel
theorem kd_M_odd_147 : decode kb_M_odd 147 = .ok (.iconst 1, 1) := by decide +kernel
theorem kd_M_odd_148 : decode kb_M_odd 148 = .ok (.goto 4, 3) := by decide +kernel
theorem kd_M_odd_151 : decode kb_M_odd 151 = .ok (.iconst 0, 1) := by decide +kernel
theorem kd_M_odd_152 : decode kb_M_odd 152 = .ok (.istore_n 3, 1) := by decide +kernel
theorem kd_M_odd_153 : decode kb_M_odd 153 = .ok (.iload_n 3, 1) := by decide +kernel
theorem kd_M_odd_154 : decode kb_M_odd 154 = .ok (.iload_n 1, 1) := by decide +kernel
theorem kd_M_odd_155 : decode kb_M_odd 155 = .ok (.ifCond .eq 7, 3) := by decide +kernel
theorem kd_M_odd_158 : decode kb_M_odd 158 = .ok (.iconst 2, 1) := by decide +kernel
theorem kd_M_odd_159 : decode kb_M_odd 159 = .ok (.goto 4, 3) := by decide +kernel
theorem kd_M_odd_162 : decode kb_M_odd 162 = .ok (.iconst 0, 1) := by decide +kernel
theorem kd_M_odd_163 : decode kb_M_odd 163 = .ok (.iadd, 1) := by decide +kernel
theorem kd_M_odd_164 : decode kb_M_odd 164 = .ok (.aload_n 0, 1) := by decide +kernel
theorem kd_M_odd_165 : decode kb_M_odd 165 = .ok (.bipush 120, 2) := by decide +kernel
theorem kd_M_odd_167 : decode kb_M_odd 167 = .ok (.bipush 123, 2) := by decide +kernel
theorem kd_M_odd_169 : decode kb_M_odd 169 = .ok (.invokevirtual 83, 3) := by decide +kernel
theorem kd_M_odd_172 : decode kb_M_odd 172 = .ok (.ifCond .le 7, 3) := by decide +kernel
theorem kd_M_odd_175 : decode kb_M_odd 175 = .ok (.iconst 4, 1) := by decide +kernel
theorem kd_M_odd_176 : decode kb_M_odd 176 = .ok (.goto 4, 3) := by decide +kernel
theorem kd_M_odd_179 : decode kb_M_odd 179 = .ok (.iconst 0, 1) := by decide +kernel
theorem kd_M_odd_180 : decode kb_M_odd 180 = .ok (.iadd, 1) := by decide +kernel
theorem kd_M_odd_181 : decode kb_M_odd 181 = .ok (.iload_n 2, 1) := by decide +kernel
theorem kd_M_odd_182 : decode kb_M_odd 182 = .ok (.ifCond .eq 8, 3) := by decide +kernel
theorem kd_M_odd_185 : decode kb_M_odd 185 = .ok (.bipush 8, 2) := by decide +kernel
theorem kd_M_odd_187 : decode kb_M_odd 187 = .ok (.goto 4, 3) := by decide +kernel
theorem kd_M_odd_190 : decode kb_M_odd 190 = .ok (.iconst 0, 1) := by decide +kernel
theorem kd_M_odd_191 : decode kb_M_odd 191 = .ok (.iadd, 1) := by decide +kernel
theorem kd_M_odd_192 : decode kb_M_odd 192 = .ok (.ireturn, 1) := by decide +kernel
theorem kd_M_isLetter_0 : decode kb_M_isLetter 0 = .ok (.iload_n 0, 1) := by decide +kernel
theorem kd_M_isLetter_1 : decode kb_M_isLetter 1 = .ok (.iconst 0, 1) := by decide +kernel
theorem kd_M_isLetter_2 : decode kb_M_isLetter 2 = .ok (.bipush 95, 2) := by decide +kernel
theorem kd_M_isLetter_4 : decode kb_M_isLetter 4 = .ok (.invokestatic 29, 3) := by decide +kernel
theorem kd_M_isLetter_7 : decode kb_M_isLetter 7 = .ok (.ifCond .ne 14, 3) := by decide +kernel
theorem kd_M_isLetter_10 : decode kb_M_isLetter 10 = .ok (.iload_n 0, 1) := by decide +kernel
theorem kd_M_isLetter_11 : decode kb_M_isLetter 11 = .ok (.bipush 124, 2) := by decide +kernel
theorem kd_M_isLetter_13 : decode kb_M_isLetter 13 = .ok (.bipush 127, 2) := by decide +kernel
theorem kd_M_isLetter_15 : decode kb_M_isLetter 15 = .ok (.invokestatic 29, 3) := by decide +kernel
theorem kd_M_isLetter_18 : decode kb_M_isLetter 18 = .ok (.ifCond .eq 7, 3) := by decide +kernel
theorem kd_M_isLetter_21 : decode kb_M_isLetter 21 = .ok (.iconst 1, 1) := by decide +kernel
theorem kd_M_isLetter_22 : decode kb_M_isLetter 22 = .ok (.goto 4, 3) := by decide +kernel
theorem kd_M_isLetter_25 : decode kb_M_isLetter 25 = .ok (.iconst 0, 1) := by decide +kernel
theorem kd_M_isLetter_26 : decode kb_M_isLetter 26 = .ok (.ireturn, 1) := by decide +kernel
theorem kd_M_words_0 : decode kb_M_words 0 = .ok (.aload_n 0, 1) := by decide +kernel
theorem kd_M_words_1 : decode kb_M_words 1 = .ok (.iconst 0, 1) := by decide +kernel
theorem kd_M_words_2 : decode kb_M_words 2 = .ok (.putfield 25, 3) := by decide +kernel
theorem kd_M_words_5 : decode kb_M_words 5 = .ok (.iconst 0, 1) := by decide +kernel
theorem kd_M_words_6 : decode kb_M_words 6 = .ok (.istore_n 1, 1) := by decide +kernel
theorem kd_M_words_7 : decode kb_M_words 7 = .ok (.aload_n 0, 1) := by decide +kernel
theorem kd_M_words_8 : decode kb_M_words 8 = .ok (.iload_n 1, 1) := by decide +kernel
theorem kd_M_words_9 : decode kb_M_words 9 = .ok (.invokevirtual 101, 3) := by decide +kernel
theorem kd_M_words_12 : decode kb_M_words 12 = .ok (.ifCond .le 9, 3) := by decide +kernel
theorem kd_M_words_15 : decode kb_M_words 15 = .ok (.iinc 1 1, 3) := by decide +kernel
theorem kd_M_words_18 : decode kb_M_words 18 = .ok (.goto (-11), 3) := by decide +kernel
theorem kd_M_words_21 : decode kb_M_words 21 = .ok (.iload_n 1, 1) := by decide +kernel
theorem kd_M_words_22 : decode kb_M_words 22 = .ok (.ireturn, 1) := by decide +kernel
theorem kd_M_find_0 : decode kb_M_find 0 = .ok (.iload_n 1, 1) := by decide +kernel
theorem kd_M_find_1 : decode kb_M_find 1 = .ok (.istore_n 2, 1) := by decide +kernel
theorem kd_M_find_2 : decode kb_M_find 2 = .ok (.aload_n 0, 1) := by decide +kernel
theorem kd_M_find_3 : decode kb_M_find 3 = .ok (.iconst 0, 1) := by decide +kernel
theorem kd_M_find_4 : decode kb_M_find 4 = .ok (.putfield 95, 3) := by decide +kernel
theorem kd_M_find_7 : decode kb_M_find 7 = .ok (.aload_n 0, 1) := by decide +kernel
theorem kd_M_find_8 : decode kb_M_find 8 = .ok (.getfield 95, 3) := by decide +kernel
theorem kd_M_find_11 : decode kb_M_find 11 = .ok (.aload_n 0, 1) := by decide +kernel
theorem kd_M_find_12 : decode kb_M_find 12 = .ok (.getfield 13, 3) := by decide +kernel
theorem kd_M_find_15 : decode kb_M_find 15 = .ok (.bipush 12, 2) := by decide +kernel
theorem kd_M_find_17 : decode kb_M_find 17 = .ok (.iaload, 1) := by decide +kernel
theorem kd_M_find_18 : decode kb_M_find 18 = .ok (.if_icmp .ge 60, 3) := by decide +kernel
theorem kd_M_find_21 : decode kb_M_find 21 = .ok (.aload_n 0, 1) := by decide +kernel
theorem kd_M_find_22 : decode kb_M_find 22 = .ok (.aload_n 0, 1) := by decide +kernel
theorem kd_M_find_23 : decode kb_M_find 23 = .ok (.getfield 95, 3) := by decide +kernel
theorem kd_M_find_26 : decode kb_M_find 26 = .ok (.invokevirtual 98, 3) := by decide +kernel
theorem kd_M_find_29 : decode kb_M_find 29 = .ok (.istore_n 3, 1) := by decide +kernel
theorem kd_M_find_30 : decode kb_M_find 30 = .ok (.iload_n 3, 1) := by decide +kernel
theorem kd_M_find_31 : decode kb_M_find 31 = .ok (.ifCond .le 9, 3) := by decide +kernel
theorem kd_M_find_34 : decode kb_M_find 34 = .ok (.iload_n 2, 1) := by decide +kernel
theorem kd_M_find_35 : decode kb_M_find 35 = .ok (.ifCond .ne 5, 3) := by decide +kernel
theorem kd_M_find_38 : decode kb_M_find 38 = .ok (.iload_n 3, 1) := by decide +kernel
theorem kd_M_find_39 : decode kb_M_find 39 = .ok (.ireturn, 1) := by decide +kernel
theorem kd_M_find_40 : decode kb_M_find 40 = .ok (.iload_n 3, 1) := by decide +kernel
theorem kd_M_find_41 : decode kb_M_find 41 = .ok (.ifCond .le 9, 3) := by decide +kernel
theorem kd_M_find_44 : decode kb_M_find 44 = .ok (.iload_n 2, 1) := by decide +kernel
theorem kd_M_find_45 : decode kb_M_find 45 = .ok (.iconst 1, 1) := by decide +kernel
theorem kd_M_find_46 : decode kb_M_find 46 = .ok (.isub, 1) := by decide +kernel
theorem kd_M_find_47 : decode kb_M_find 47 = .ok (.goto 4, 3) := by decide +kernel
theorem kd_M_find_50 : decode kb_M_find 50 = .ok (.iload_n 2, 1) := by decide +kernel
theorem kd_M_find_51 : decode kb_M_find 51 = .ok (.istore_n 2, 1) := by decide +kernel
theorem kd_M_find_52 : decode kb_M_find 52 = .ok (.aload_n 0, 1) := by decide +kernel
theorem kd_M_find_53 : decode kb_M_find 53 = .ok (.iload_n 3, 1) := by decide +kernel
theorem kd_M_find_54 : decode kb_M_find 54 = .ok (.ifCond .le 12, 3) := by decide +kernel
theorem kd_M_find_57 : decode kb_M_find 57 = .ok (.aload_n 0, 1) := by decide +kernel
theorem kd_M_find_58 : decode kb_M_find 58 = .ok (.getfield 95, 3) := by decide +kernel
theorem kd_M_find_61 : decode kb_M_find 61 = .ok (.iload_n 3, 1) := by decide +kernel
theorem kd_M_find_62 : decode kb_M_find 62 = .ok (.iadd, 1) := by decide +kernel
theorem kd_M_find_63 : decode kb_M_find 63 = .ok (.goto 9, 3) := by decide +kernel
theorem kd_M_find_66 : decode kb_M_find 66 = .ok (.aload_n 0, 1) := by decide +kernel
theorem kd_M_find_67 : decode kb_M_find 67 = .ok (.getfield 95, 3) := by decide +kernel
theorem kd_M_find_70 : decode kb_M_find 70 = .ok (.iconst 1, 1) := by decide +kernel
theorem kd_M_find_71 : decode kb_M_find 71 = .ok (.iadd, 1) := by decide +kernel
theorem kd_M_find_72 : decode kb_M_find 72 = .ok (.putfield 95, 3) := by decide +kernel
theorem kd_M_find_75 : decode kb_M_find 75 = .ok (.goto (-68), 3) := by decide +kernel
theorem kd_M_find_78 : decode kb_M_find 78 = .ok (.iconst 0, 1) := by decide +kernel
theorem kd_M_find_79 : decode kb_M_find 79 = .ok (.ireturn, 1) := by decide +kernel
theorem kd_M_identifier_0 : decode kb_M_identifier 0 = .ok (.iload_n 1, 1) := by decide +kernel
theorem kd_M_identifier_1 : decode kb_M_identifier 1 = .ok (.aload_n 0, 1) := by decide +kernel
theorem kd_M_identifier_2 : decode kb_M_identifier 2 = .ok (.getfield 13, 3) := by decide +kernel
theorem kd_M_identifier_5 : decode kb_M_identifier 5 = .ok (.bipush 12, 2) := by decide +kernel
theorem kd_M_identifier_7 : decode kb_M_identifier 7 = .ok (.iaload, 1) := by decide +kernel
theorem kd_M_identifier_8 : decode kb_M_identifier 8 = .ok (.if_icmp .ge 19, 3) := by decide +kernel
theorem kd_M_identifier_11 : decode kb_M_identifier 11 = .ok (.aload_n 0, 1) := by decide +kernel
theorem kd_M_identifier_12 : decode kb_M_identifier 12 = .ok (.getfield 7, 3) := by decide +kernel
theorem kd_M_identifier_15 : decode kb_M_identifier 15 = .ok (.sipush 576, 3) := by decide +kernel
theorem kd_M_identifier_18 : decode kb_M_identifier 18 = .ok (.iload_n 1, 1) := by decide +kernel
theorem kd_M_identifier_19 : decode kb_M_identifier 19 = .ok (.iadd, 1) := by decide +kernel
theorem kd_M_identifier_20 : decode kb_M_identifier 20 = .ok (.iaload, 1) := by decide +kernel
theorem kd_M_identifier_21 : decode kb_M_identifier 21 = .ok (.invokestatic 89, 3) := by decide +kernel
theorem kd_M_identifier_24 : decode kb_M_identifier 24 = .ok (.ifCond .ne 5, 3) := by decide +kernel
theorem kd_M_identifier_27 : decode kb_M_identifier 27 = .ok (.iconst 0, 1) := by decide +kernel
theorem kd_M_identifier_28 : decode kb_M_identifier 28 = .ok (.ireturn, 1) := by decide +kernel
theorem kd_M_identifier_29 : decode kb_M_identifier 29 = .ok (.iload_n 1, 1) := by decide +kernel
theorem kd_M_identifier_30 : decode kb_M_identifier 30 = .ok (.iconst 1, 1) := by decide +kernel
theorem kd_M_identifier_31 : decode kb_M_identifier 31 = .ok (.iadd, 1) := by decide +kernel
theorem kd_M_identifier_32 : decode kb_M_identifier 32 = .ok (.istore_n 2, 1) := by decide +kernel
theorem kd_M_identifier_33 : decode kb_M_identifier 33 = .ok (.iload_n 1, 1) := by decide +kernel
theorem kd_M_identifier_34 : decode kb_M_identifier 34 = .ok (.istore_n 3, 1) := by decide +kernel
theorem kd_M_identifier_35 : decode kb_M_identifier 35 = .ok (.iload_n 2, 1) := by decide +kernel
theorem kd_M_identifier_36 : decode kb_M_identifier 36 = .ok (.iload_n 3, 1) := by decide +kernel
theorem kd_M_identifier_37 : decode kb_M_identifier 37 = .ok (.if_icmp .le 83, 3) := by decide +kernel
theorem kd_M_identifier_40 : decode kb_M_identifier 40 = .ok (.iload_n 2, 1) := by decide +kernel
theorem kd_M_identifier_41 : decode kb_M_identifier 41 = .ok (.istore_n 3, 1) := by decide +kernel
theorem kd_M_identifier_42 : decode kb_M_identifier 42 = .ok (.iload_n 2, 1) := by decide +kernel
theorem kd_M_identifier_43 : decode kb_M_identifier 43 = .ok (.aload_n 0, 1) := by decide +kernel
theorem kd_M_identifier_44 : decode kb_M_identifier 44 = .ok (.getfield 13, 3) := by decide +kernel
theorem kd_M_identifier_47 : decode kb_M_identifier 47 = .ok (.bipush 12, 2) := by decide +kernel
theorem kd_M_identifier_49 : decode kb_M_identifier 49 = .ok (.iaload, 1) := by decide +kernel
theorem kd_M_identifier_50 : decode kb_M_identifier 50 = .ok (.if_icmp .ge 27, 3) := by decide +kernel
theorem kd_M_identifier_53 : decode kb_M_identifier 53 = .ok (.aload_n 0, 1) := by decide +kernel
theorem kd_M_identifier_54 : decode kb_M_identifier 54 = .ok (.getfield 7, 3) := by decide +kernel
theorem kd_M_identifier_57 : decode kb_M_identifier 57 = .ok (.sipush 576, 3) := by decide +kernel
theorem kd_M_identifier_60 : decode kb_M_identifier 60 = .ok (.iload_n 2, 1) := by decide +kernel
theorem kd_M_identifier_61 : decode kb_M_identifier 61 = .ok (.iadd, 1) := by decide +kernel
theorem kd_M_identifier_62 : decode kb_M_identifier 62 = .ok (.iaload, 1) := by decide +kernel
theorem kd_M_identifier_63 : decode kb_M_identifier 63 = .ok (.bipush 113, 2) := by decide +kernel
theorem kd_M_identifier_65 : decode kb_M_identifier 65 = .ok (.bipush 114, 2) := by decide +kernel
theorem kd_M_identifier_67 : decode kb_M_identifier 67 = .ok (.invokestatic 29, 3) := by decide +kernel
theorem kd_M_identifier_70 : decode kb_M_identifier 70 = .ok (.ifCond .eq 7, 3) := by decide +kernel
theorem kd_M_identifier_73 : decode kb_M_identifier 73 = .ok (.iconst 1, 1) := by decide +kernel
theorem kd_M_identifier_74 : decode kb_M_identifier 74 = .ok (.goto 4, 3) := by decide +kernel
theorem kd_M_identifier_77 : decode kb_M_identifier 77 = .ok (.iconst 0, 1) := by decide +kernel
theorem kd_M_identifier_78 : decode kb_M_identifier 78 = .ok (.istore 4, 2) := by decide +kernel
theorem kd_M_identifier_80 : decode kb_M_identifier 80 = .ok (.aload_n 0, 1) := by decide +kernel
theorem kd_M_identifier_81 : decode kb_M_identifier 81 = .ok (.iload_n 2, 1) := by decide +kernel
theorem kd_M_identifier_82 : decode kb_M_identifier 82 = .ok (.invokevirtual 92, 3) := by decide +kernel
theorem kd_M_identifier_85 : decode kb_M_identifier 85 = .ok (.ifCond .eq 9, 3) := by decide +kernel
theorem kd_M_identifier_88 : decode kb_M_identifier 88 = .ok (.iload_n 2, 1) := by decide +kernel
theorem kd_M_identifier_89 : decode kb_M_identifier 89 = .ok (.iconst 1, 1) := by decide +kernel
theorem kd_M_identifier_90 : decode kb_M_identifier 90 = .ok (.iadd, 1) := by decide +kernel
theorem kd_M_identifier_91 : decode kb_M_identifier 91 = .ok (.goto 25, 3) := by decide +kernel
theorem kd_M_identifier_94 : decode kb_M_identifier 94 = .ok (.iload 4, 2) := by decide +kernel
theorem kd_M_identifier_96 : decode kb_M_identifier 96 = .ok (.ifCond .eq 19, 3) := by decide +kernel
theorem kd_M_identifier_99 : decode kb_M_identifier 99 = .ok (.aload_n 0, 1) := by decide +kernel
theorem kd_M_identifier_100 : decode kb_M_identifier 100 = .ok (.iload_n 2, 1) := by decide +kernel
theorem kd_M_identifier_101 : decode kb_M_identifier 101 = .ok (.iconst 1, 1) := by decide +kernel
theorem kd_M_identifier_102 : decode kb_M_identifier 102 = .ok (.iadd, 1) := by decide +kernel
theorem kd_M_identifier_103 : decode kb_M_identifier 103 = .ok (.invokevirtual 92, 3) := by decide +kernel
theorem kd_M_identifier_106 : decode kb_M_identifier 106 = .ok (.ifCond .eq 9, 3) := by decide +kernel
theorem kd_M_identifier_109 : decode kb_M_identifier 109 = .ok (.iload_n 2, 1) := by decide +kernel
theorem kd_M_identifier_110 : decode kb_M_identifier 110 = .ok (.iconst 2, 1) := by decide +kernel
theorem kd_M_identifier_111 : decode kb_M_identifier 111 = .ok (.iadd, 1) := by decide +kernel
theorem kd_M_identifier_112 : decode kb_M_identifier 112 = .ok (.goto 4, 3) := by decide +kernel
theorem kd_M_identifier_115 : decode kb_M_identifier 115 = .ok (.iload_n 2, 1) := by decide +kernel
theorem kd_M_identifier_116 : decode kb_M_identifier 116 = .ok (.istore_n 2, 1) := by decide +kernel
theorem kd_M_identifier_117 : decode kb_M_identifier 117 = .ok (.goto (-82), 3) := by decide +kernel
theorem kd_M_identifier_120 : decode kb_M_identifier 120 = .ok (.iload_n 2, 1) := by decide +kernel
theorem kd_M_identifier_121 : decode kb_M_identifier 121 = .ok (.iload_n 1, 1) := by decide +kernel
theorem kd_M_identifier_122 : decode kb_M_identifier 122 = .ok (.isub, 1) := by decide +kernel
theorem kd_M_identifier_123 : decode kb_M_identifier 123 = .ok (.ireturn, 1) := by decide +kernel
theorem kd_M_isPiece_0 : decode kb_M_isPiece 0 = .ok (.iload_n 1, 1) := by decide +kernel
theorem kd_M_isPiece_1 : decode kb_M_isPiece 1 = .ok (.aload_n 0, 1) := by decide +kernel
theorem kd_M_isPiece_2 : decode kb_M_isPiece 2 = .ok (.getfield 13, 3) := by decide +kernel
theorem kd_M_isPiece_5 : decode kb_M_isPiece 5 = .ok (.bipush 12, 2) := by decide +kernel
theorem kd_M_isPiece_7 : decode kb_M_isPiece 7 = .ok (.iaload, 1) := by decide +kernel
theorem kd_M_isPiece_8 : decode kb_M_isPiece 8 = .ok (.if_icmp .ge 43, 3) := by decide +kernel
theorem kd_M_isPiece_11 : decode kb_M_isPiece 11 = .ok (.aload_n 0, 1) := by decide +kernel
theorem kd_M_isPiece_12 : decode kb_M_isPiece 12 = .ok (.getfield 7, 3) := by decide +kernel
theorem kd_M_isPiece_15 : decode kb_M_isPiece 15 = .ok (.sipush 576, 3) := by decide +kernel
theorem kd_M_isPiece_18 : decode kb_M_isPiece 18 = .ok (.iload_n 1, 1) := by decide +kernel
theorem kd_M_isPiece_19 : decode kb_M_isPiece 19 = .ok (.iadd, 1) := by decide +kernel
theorem kd_M_isPiece_20 : decode kb_M_isPiece 20 = .ok (.iaload, 1) := by decide +kernel
theorem kd_M_isPiece_21 : decode kb_M_isPiece 21 = .ok (.invokestatic 89, 3) := by decide +kernel
theorem kd_M_isPiece_24 : decode kb_M_isPiece 24 = .ok (.ifCond .ne 23, 3) := by decide +kernel
theorem kd_M_isPiece_27 : decode kb_M_isPiece 27 = .ok (.aload_n 0, 1) := by decide +kernel
theorem kd_M_isPiece_28 : decode kb_M_isPiece 28 = .ok (.getfield 7, 3) := by decide +kernel
theorem kd_M_isPiece_31 : decode kb_M_isPiece 31 = .ok (.sipush 576, 3) := by decide +kernel
theorem kd_M_isPiece_34 : decode kb_M_isPiece 34 = .ok (.iload_n 1, 1) := by decide +kernel
theorem kd_M_isPiece_35 : decode kb_M_isPiece 35 = .ok (.iadd, 1) := by decide +kernel
theorem kd_M_isPiece_36 : decode kb_M_isPiece 36 = .ok (.iaload, 1) := by decide +kernel
theorem kd_M_isPiece_37 : decode kb_M_isPiece 37 = .ok (.bipush 96, 2) := by decide +kernel
theorem kd_M_isPiece_39 : decode kb_M_isPiece 39 = .ok (.bipush 112, 2) := by decide +kernel
theorem kd_M_isPiece_41 : decode kb_M_isPiece 41 = .ok (.invokestatic 29, 3) := by decide +kernel
theorem kd_M_isPiece_44 : decode kb_M_isPiece 44 = .ok (.ifCond .eq 7, 3) := by decide +kernel
theorem kd_M_isPiece_47 : decode kb_M_isPiece 47 = .ok (.iconst 1, 1) := by decide +kernel
theorem kd_M_isPiece_48 : decode kb_M_isPiece 48 = .ok (.goto 4, 3) := by decide +kernel
theorem kd_M_isPiece_51 : decode kb_M_isPiece 51 = .ok (.iconst 0, 1) := by decide +kernel
theorem kd_M_isPiece_52 : decode kb_M_isPiece 52 = .ok (.ireturn, 1) := by decide +kernel
theorem kd_M_word_0 : decode kb_M_word 0 = .ok (.aload_n 0, 1) := by decide +kernel
theorem kd_M_word_1 : decode kb_M_word 1 = .ok (.iconst 0, 1) := by decide +kernel
theorem kd_M_word_2 : decode kb_M_word 2 = .ok (.putfield 25, 3) := by decide +kernel
theorem kd_M_word_5 : decode kb_M_word 5 = .ok (.iload_n 1, 1) := by decide +kernel
theorem kd_M_word_6 : decode kb_M_word 6 = .ok (.ifCond .ge 7, 3) := by decide +kernel
theorem kd_M_word_9 : decode kb_M_word 9 = .ok (.iconst 0, 1) := by decide +kernel
theorem kd_M_word_10 : decode kb_M_word 10 = .ok (.goto 8, 3) := by decide +kernel
theorem kd_M_word_13 : decode kb_M_word 13 = .ok (.aload_n 0, 1) := by decide +kernel
theorem kd_M_word_14 : decode kb_M_word 14 = .ok (.iload_n 1, 1) := by decide +kernel
theorem kd_M_word_15 : decode kb_M_word 15 = .ok (.invokevirtual 101, 3) := by decide +kernel
theorem kd_M_word_18 : decode kb_M_word 18 = .ok (.istore_n 3, 1) := by decide +kernel
theorem kd_M_word_19 : decode kb_M_word 19 = .ok (.iload_n 3, 1) := by decide +kernel
theorem kd_M_word_20 : decode kb_M_word 20 = .ok (.ifCond .eq 12, 3) := by decide +kernel
theorem kd_M_word_23 : decode kb_M_word 23 = .ok (.iload_n 2, 1) := by decide +kernel
theorem kd_M_word_24 : decode kb_M_word 24 = .ok (.ifCond .lt 8, 3) := by decide +kernel
theorem kd_M_word_27 : decode kb_M_word 27 = .ok (.iload_n 2, 1) := by decide +kernel
theorem kd_M_word_28 : decode kb_M_word 28 = .ok (.iconst 3, 1) := by decide +kernel
theorem kd_M_word_29 : decode kb_M_word 29 = .ok (.if_icmp .le 9, 3) := by decide +kernel
theorem kd_M_word_32 : decode kb_M_word 32 = .ok (.aload_n 0, 1) := by decide +kernel
theorem kd_M_word_33 : decode kb_M_word 33 = .ok (.iconst 1, 1) := by decide +kernel
theorem kd_M_word_34 : decode kb_M_word 34 = .ok (.invokevirtual 73, 3) := by decide +kernel
theorem kd_M_word_37 : decode kb_M_word 37 = .ok (.ireturn, 1) := by decide +kernel
theorem kd_M_word_38 : decode kb_M_word 38 = .ok (.aload_n 0, 1) := by decide +kernel
theorem kd_M_word_39 : decode kb_M_word 39 = .ok (.getfield 95, 3) := by decide +kernel
theorem kd_M_word_42 : decode kb_M_word 42 = .ok (.istore 4, 2) := by decide +kernel
theorem kd_M_word_44 : decode kb_M_word 44 = .ok (.iload_n 2, 1) := by decide +kernel
theorem kd_M_word_45 : decode kb_M_word 45 = .ok (.iconst 2, 1) := by decide +kernel
theorem kd_M_word_46 : decode kb_M_word 46 = .ok (.if_icmp .ge 14, 3) := by decide +kernel
theorem kd_M_word_49 : decode kb_M_word 49 = .ok (.iload_n 2, 1) := by decide +kernel
theorem kd_M_word_50 : decode kb_M_word 50 = .ok (.ifCond .ne 8, 3) := by decide +kernel
theorem kd_M_word_53 : decode kb_M_word 53 = .ok (.iload 4, 2) := by decide +kernel
theorem kd_M_word_55 : decode kb_M_word 55 = .ok (.goto 4, 3) := by decide +kernel
theorem kd_M_word_58 : decode kb_M_word 58 = .ok (.iload_n 3, 1) := by decide +kernel
theorem kd_M_word_59 : decode kb_M_word 59 = .ok (.ireturn, 1) := by decide +kernel
theorem kd_M_word_60 : decode kb_M_word 60 = .ok (.iload_n 2, 1) := by decide +kernel
theorem kd_M_word_61 : decode kb_M_word 61 = .ok (.iconst 2, 1) := by decide +kernel
theorem kd_M_word_62 : decode kb_M_word 62 = .ok (.if_icmp .ne 12, 3) := by decide +kernel
theorem kd_M_word_65 : decode kb_M_word 65 = .ok (.aload_n 0, 1) := by decide +kernel
theorem kd_M_word_66 : decode kb_M_word 66 = .ok (.iload_n 1, 1) := by decide +kernel
theorem kd_M_word_67 : decode kb_M_word 67 = .ok (.iload 4, 2) := by decide +kernel
theorem kd_M_word_69 : decode kb_M_word 69 = .ok (.iload_n 3, 1) := by decide +kernel
theorem kd_M_word_70 : decode kb_M_word 70 = .ok (.invokevirtual 117, 3) := by decide +kernel
theorem kd_M_word_73 : decode kb_M_word 73 = .ok (.ireturn, 1) := by decide +kernel
theorem kd_M_word_74 : decode kb_M_word 74 = .ok (.aload_n 0, 1) := by decide +kernel
theorem kd_M_word_75 : decode kb_M_word 75 = .ok (.iload 4, 2) := by decide +kernel
theorem kd_M_word_77 : decode kb_M_word 77 = .ok (.iload_n 3, 1) := by decide +kernel
theorem kd_M_word_78 : decode kb_M_word 78 = .ok (.bipush 13, 2) := by decide +kernel
theorem kd_M_word_80 : decode kb_M_word 80 = .ok (.invokevirtual 104, 3) := by decide +kernel
theorem kd_M_word_83 : decode kb_M_word 83 = .ok (.aload_n 0, 1) := by decide +kernel
theorem kd_M_word_84 : decode kb_M_word 84 = .ok (.bipush 13, 2) := by decide +kernel
theorem kd_M_word_86 : decode kb_M_word 86 = .ok (.iconst 0, 1) := by decide +kernel
theorem kd_M_word_87 : decode kb_M_word 87 = .ok (.invokevirtual 121, 3) := by decide +kernel
theorem kd_M_word_90 : decode kb_M_word 90 = .ok (.ireturn, 1) := by decide +kernel
theorem kd_M_wordLike_0 : decode kb_M_wordLike 0 = .ok (.iconst 0, 1) := by decide +kernel
theorem kd_M_wordLike_1 : decode kb_M_wordLike 1 = .ok (.istore 4, 2) := by decide +kernel
theorem kd_M_wordLike_3 : decode kb_M_wordLike 3 = .ok (.iload 4, 2) := by decide +kernel
theorem kd_M_wordLike_5 : decode kb_M_wordLike 5 = .ok (.iload_n 1, 1) := by decide +kernel
theorem kd_M_wordLike_6 : decode kb_M_wordLike 6 = .ok (.if_icmp .ge 41, 3) := by decide +kernel
theorem kd_M_wordLike_9 : decode kb_M_wordLike 9 = .ok (.aload_n 0, 1) := by decide +kernel
theorem kd_M_wordLike_10 : decode kb_M_wordLike 10 = .ok (.iload 4, 2) := by decide +kernel
theorem kd_M_wordLike_12 : decode kb_M_wordLike 12 = .ok (.invokevirtual 101, 3) := by decide +kernel
theorem kd_M_wordLike_15 : decode kb_M_wordLike 15 = .ok (.istore 5, 2) := by decide +kernel
theorem kd_M_wordLike_17 : decode kb_M_wordLike 17 = .ok (.aload_n 0, 1) := by decide +kernel
theorem kd_M_wordLike_18 : decode kb_M_wordLike 18 = .ok (.iload_n 2, 1) := by decide +kernel
theorem kd_M_wordLike_19 : decode kb_M_wordLike 19 = .ok (.iload_n 3, 1) := by decide +kernel
theorem kd_M_wordLike_20 : decode kb_M_wordLike 20 = .ok (.bipush 13, 2) := by decide +kernel
theorem kd_M_wordLike_22 : decode kb_M_wordLike 22 = .ok (.invokevirtual 104, 3) := by decide +kernel
theorem kd_M_wordLike_25 : decode kb_M_wordLike 25 = .ok (.aload_n 0, 1) := by decide +kernel
theorem kd_M_wordLike_26 : decode kb_M_wordLike 26 = .ok (.aload_n 0, 1) := by decide +kernel
theorem kd_M_wordLike_27 : decode kb_M_wordLike 27 = .ok (.getfield 95, 3) := by decide +kernel
theorem kd_M_wordLike_30 : decode kb_M_wordLike 30 = .ok (.iload 5, 2) := by decide +kernel
theorem kd_M_wordLike_32 : decode kb_M_wordLike 32 = .ok (.invokevirtual 108, 3) := by decide +kernel
theorem kd_M_wordLike_35 : decode kb_M_wordLike 35 = .ok (.ifCond .eq 6, 3) := by decide +kernel
theorem kd_M_wordLike_38 : decode kb_M_wordLike 38 = .ok (.iload 4, 2) := by decide +kernel
theorem kd_M_wordLike_40 : decode kb_M_wordLike 40 = .ok (.ireturn, 1) := by decide +kernel
theorem kd_M_wordLike_41 : decode kb_M_wordLike 41 = .ok (.iinc 4 1, 3) := by decide +kernel
theorem kd_M_wordLike_44 : decode kb_M_wordLike 44 = .ok (.goto (-41), 3) := by decide +kernel
theorem kd_M_wordLike_47 : decode kb_M_wordLike 47 = .ok (.iconst (-1), 1) := by decide +kernel
theorem kd_M_wordLike_48 : decode kb_M_wordLike 48 = .ok (.ireturn, 1) := by decide +kernel
theorem kd_M_copy_0 : decode kb_M_copy 0 = .ok (.aload_n 0, 1) := by decide +kernel
theorem kd_M_copy_1 : decode kb_M_copy 1 = .ok (.getfield 13, 3) := by decide +kernel
theorem kd_M_copy_4 : decode kb_M_copy 4 = .ok (.iload_n 3, 1) := by decide +kernel
theorem kd_M_copy_5 : decode kb_M_copy 5 = .ok (.iload_n 2, 1) := by decide +kernel
theorem kd_M_copy_6 : decode kb_M_copy 6 = .ok (.iastore, 1) := by decide +kernel
theorem kd_M_copy_7 : decode kb_M_copy 7 = .ok (.iconst 0, 1) := by decide +kernel
theorem kd_M_copy_8 : decode kb_M_copy 8 = .ok (.istore 4, 2) := by decide +kernel
theorem kd_M_copy_10 : decode kb_M_copy 10 = .ok (.iload 4, 2) := by decide +kernel
theorem kd_M_copy_12 : decode kb_M_copy 12 = .ok (.iload_n 2, 1) := by decide +kernel
theorem kd_M_copy_13 : decode kb_M_copy 13 = .ok (.if_icmp .ge 34, 3) := by decide +kernel
theorem kd_M_copy_16 : decode kb_M_copy 16 = .ok (.aload_n 0, 1) := by decide +kernel
theorem kd_M_copy_17 : decode kb_M_copy 17 = .ok (.getfield 7, 3) := by decide +kernel
theorem kd_M_copy_20 : decode kb_M_copy 20 = .ok (.bipush 48, 2) := by decide +kernel
theorem kd_M_copy_22 : decode kb_M_copy 22 = .ok (.iload_n 3, 1) := by decide +kernel
theorem kd_M_copy_23 : decode kb_M_copy 23 = .ok (.imul, 1) := by decide +kernel
theorem kd_M_copy_24 : decode kb_M_copy 24 = .ok (.iload 4, 2) := by decide +kernel
theorem kd_M_copy_26 : decode kb_M_copy 26 = .ok (.iadd, 1) := by decide +kernel
theorem kd_M_copy_27 : decode kb_M_copy 27 = .ok (.aload_n 0, 1) := by decide +kernel
theorem kd_M_copy_28 : decode kb_M_copy 28 = .ok (.getfield 7, 3) := by decide +kernel
theorem kd_M_copy_31 : decode kb_M_copy 31 = .ok (.sipush 576, 3) := by decide +kernel
theorem kd_M_copy_34 : decode kb_M_copy 34 = .ok (.iload_n 1, 1) := by decide +kernel
theorem kd_M_copy_35 : decode kb_M_copy 35 = .ok (.iadd, 1) := by decide +kernel
theorem kd_M_copy_36 : decode kb_M_copy 36 = .ok (.iload 4, 2) := by decide +kernel
theorem kd_M_copy_38 : decode kb_M_copy 38 = .ok (.iadd, 1) := by decide +kernel
theorem kd_M_copy_39 : decode kb_M_copy 39 = .ok (.iaload, 1) := by decide +kernel
theorem kd_M_copy_40 : decode kb_M_copy 40 = .ok (.iastore, 1) := by decide +kernel
theorem kd_M_copy_41 : decode kb_M_copy 41 = .ok (.iinc 4 1, 3) := by decide +kernel
theorem kd_M_copy_44 : decode kb_M_copy 44 = .ok (.goto (-34), 3) := by decide +kernel
theorem kd_M_copy_47 : decode kb_M_copy 47 = .ok (.return_, 1) := by decide +kernel
theorem kd_M_likePiece_0 : decode kb_M_likePiece 0 = .ok (.aload_n 0, 1) := by decide +kernel
theorem kd_M_likePiece_1 : decode kb_M_likePiece 1 = .ok (.getfield 13, 3) := by decide +kernel
theorem kd_M_likePiece_4 : decode kb_M_likePiece 4 = .ok (.bipush 12, 2) := by decide +kernel
theorem kd_M_likePiece_6 : decode kb_M_likePiece 6 = .ok (.iaload, 1) := by decide +kernel
theorem kd_M_likePiece_7 : decode kb_M_likePiece 7 = .ok (.istore_n 3, 1) := by decide +kernel
theorem kd_M_likePiece_8 : decode kb_M_likePiece 8 = .ok (.iload_n 2, 1) := by decide +kernel
theorem kd_M_likePiece_9 : decode kb_M_likePiece 9 = .ok (.aload_n 0, 1) := by decide +kernel
theorem kd_M_likePiece_10 : decode kb_M_likePiece 10 = .ok (.getfield 13, 3) := by decide +kernel
theorem kd_M_likePiece_13 : decode kb_M_likePiece 13 = .ok (.bipush 13, 2) := by decide +kernel
theorem kd_M_likePiece_15 : decode kb_M_likePiece 15 = .ok (.iaload, 1) := by decide +kernel
theorem kd_M_likePiece_16 : decode kb_M_likePiece 16 = .ok (.if_icmp .ne 7, 3) := by decide +kernel
theorem kd_M_likePiece_19 : decode kb_M_likePiece 19 = .ok (.iconst 1, 1) := by decide +kernel
theorem kd_M_likePiece_20 : decode kb_M_likePiece 20 = .ok (.goto 4, 3) := by decide +kernel
theorem kd_M_likePiece_23 : decode kb_M_likePiece 23 = .ok (.iconst 0, 1) := by decide +kernel
theorem kd_M_likePiece_24 : decode kb_M_likePiece 24 = .ok (.istore 4, 2) := by decide +kernel
theorem kd_M_likePiece_26 : decode kb_M_likePiece 26 = .ok (.iconst 0, 1) := by decide +kernel
theorem kd_M_likePiece_27 : decode kb_M_likePiece 27 = .ok (.istore 5, 2) := by decide +kernel
theorem kd_M_likePiece_29 : decode kb_M_likePiece 29 = .ok (.iload 5, 2) := by decide +kernel
theorem kd_M_likePiece_31 : decode kb_M_likePiece 31 = .ok (.iload_n 2, 1) := by decide +kernel
theorem kd_M_likePiece_32 : decode kb_M_likePiece 32 = .ok (.if_icmp .ge 48, 3) := by decide +kernel
theorem kd_M_likePiece_35 : decode kb_M_likePiece 35 = .ok (.iload 4, 2) := by decide +kernel
theorem kd_M_likePiece_37 : decode kb_M_likePiece 37 = .ok (.ifCond .eq 43, 3) := by decide +kernel
theorem kd_M_likePiece_40 : decode kb_M_likePiece 40 = .ok (.aload_n 0, 1) := by decide +kernel
theorem kd_M_likePiece_41 : decode kb_M_likePiece 41 = .ok (.getfield 7, 3) := by decide +kernel
theorem kd_M_likePiece_44 : decode kb_M_likePiece 44 = .ok (.sipush 576, 3) := by decide +kernel
theorem kd_M_likePiece_47 : decode kb_M_likePiece 47 = .ok (.iload_n 1, 1) := by decide +kernel
theorem kd_M_likePiece_48 : decode kb_M_likePiece 48 = .ok (.iadd, 1) := by decide +kernel
theorem kd_M_likePiece_49 : decode kb_M_likePiece 49 = .ok (.iload 5, 2) := by decide +kernel
theorem kd_M_likePiece_51 : decode kb_M_likePiece 51 = .ok (.iadd, 1) := by decide +kernel
theorem kd_M_likePiece_52 : decode kb_M_likePiece 52 = .ok (.iaload, 1) := by decide +kernel
theorem kd_M_likePiece_53 : decode kb_M_likePiece 53 = .ok (.aload_n 0, 1) := by decide +kernel
theorem kd_M_likePiece_54 : decode kb_M_likePiece 54 = .ok (.getfield 7, 3) := by decide +kernel
theorem kd_M_likePiece_57 : decode kb_M_likePiece 57 = .ok (.sipush 624, 3) := by decide +kernel
theorem kd_M_likePiece_60 : decode kb_M_likePiece 60 = .ok (.iload 5, 2) := by decide +kernel
theorem kd_M_likePiece_62 : decode kb_M_likePiece 62 = .ok (.iadd, 1) := by decide +kernel
theorem kd_M_likePiece_63 : decode kb_M_likePiece 63 = .ok (.iaload, 1) := by decide +kernel
theorem kd_M_likePiece_64 : decode kb_M_likePiece 64 = .ok (.if_icmp .ne 7, 3) := by decide +kernel
theorem kd_M_likePiece_67 : decode kb_M_likePiece 67 = .ok (.iconst 1, 1) := by decide +kernel
theorem kd_M_likePiece_68 : decode kb_M_likePiece 68 = .ok (.goto 4, 3) := by decide +kernel
theorem kd_M_likePiece_71 : decode kb_M_likePiece 71 = .ok (.iconst 0, 1) := by decide +kernel
theorem kd_M_likePiece_72 : decode kb_M_likePiece 72 = .ok (.istore 4, 2) := by decide +kernel
theorem kd_M_likePiece_74 : decode kb_M_likePiece 74 = .ok (.iinc 5 1, 3) := by decide +kernel
theorem kd_M_likePiece_77 : decode kb_M_likePiece 77 = .ok (.goto (-48), 3) := by decide +kernel
theorem kd_M_likePiece_80 : decode kb_M_likePiece 80 = .ok (.iload 4, 2) := by decide +kernel
theorem kd_M_likePiece_82 : decode kb_M_likePiece 82 = .ok (.ifCond .eq 5, 3) := by decide +kernel
theorem kd_M_likePiece_85 : decode kb_M_likePiece 85 = .ok (.iconst 0, 1) := by decide +kernel
theorem kd_M_likePiece_86 : decode kb_M_likePiece 86 = .ok (.ireturn, 1) := by decide +kernel
theorem kd_M_likePiece_87 : decode kb_M_likePiece 87 = .ok (.aload_n 0, 1) := by decide +kernel
theorem kd_M_likePiece_88 : decode kb_M_likePiece 88 = .ok (.bipush 13, 2) := by decide +kernel
theorem kd_M_likePiece_90 : decode kb_M_likePiece 90 = .ok (.iconst 0, 1) := by decide +kernel
theorem kd_M_likePiece_91 : decode kb_M_likePiece 91 = .ok (.invokevirtual 59, 3) := by decide +kernel
theorem kd_M_likePiece_94 : decode kb_M_likePiece 94 = .ok (.aload_n 0, 1) := by decide +kernel
theorem kd_M_likePiece_95 : decode kb_M_likePiece 95 = .ok (.iload_n 1, 1) := by decide +kernel
theorem kd_M_likePiece_96 : decode kb_M_likePiece 96 = .ok (.iload_n 2, 1) := by decide +kernel
theorem kd_M_likePiece_97 : decode kb_M_likePiece 97 = .ok (.bipush 13, 2) := by decide +kernel
theorem kd_M_likePiece_99 : decode kb_M_likePiece 99 = .ok (.invokevirtual 104, 3) := by decide +kernel
theorem kd_M_likePiece_102 : decode kb_M_likePiece 102 = .ok (.aload_n 0, 1) := by decide +kernel
theorem kd_M_likePiece_103 : decode kb_M_likePiece 103 = .ok (.bipush 13, 2) := by decide +kernel
theorem kd_M_likePiece_105 : decode kb_M_likePiece 105 = .ok (.iconst 1, 1) := by decide +kernel
theorem kd_M_likePiece_106 : decode kb_M_likePiece 106 = .ok (.invokevirtual 59, 3) := by decide +kernel
theorem kd_M_likePiece_109 : decode kb_M_likePiece 109 = .ok (.aload_n 0, 1) := by decide +kernel
theorem kd_M_likePiece_110 : decode kb_M_likePiece 110 = .ok (.getfield 19, 3) := by decide +kernel
theorem kd_M_likePiece_113 : decode kb_M_likePiece 113 = .ok (.iconst 0, 1) := by decide +kernel
theorem kd_M_likePiece_114 : decode kb_M_likePiece 114 = .ok (.iaload, 1) := by decide +kernel
theorem kd_M_likePiece_115 : decode kb_M_likePiece 115 = .ok (.aload_n 0, 1) := by decide +kernel
theorem kd_M_likePiece_116 : decode kb_M_likePiece 116 = .ok (.getfield 19, 3) := by decide +kernel
theorem kd_M_likePiece_119 : decode kb_M_likePiece 119 = .ok (.iconst 1, 1) := by decide +kernel
theorem kd_M_likePiece_120 : decode kb_M_likePiece 120 = .ok (.iaload, 1) := by decide +kernel
theorem kd_M_likePiece_121 : decode kb_M_likePiece 121 = .ok (.if_icmp .ne 7, 3) := by decide +kernel
theorem kd_M_likePiece_124 : decode kb_M_likePiece 124 = .ok (.iconst 1, 1) := by decide +kernel
theorem kd_M_likePiece_125 : decode kb_M_likePiece 125 = .ok (.goto 4, 3) := by decide +kernel
theorem kd_M_likePiece_128 : decode kb_M_likePiece 128 = .ok (.iconst 0, 1) := by decide +kernel
theorem kd_M_likePiece_129 : decode kb_M_likePiece 129 = .ok (.istore 5, 2) := by decide +kernel
theorem kd_M_likePiece_131 : decode kb_M_likePiece 131 = .ok (.iconst 0, 1) := by decide +kernel
theorem kd_M_likePiece_132 : decode kb_M_likePiece 132 = .ok (.istore 6, 2) := by decide +kernel
theorem kd_M_likePiece_134 : decode kb_M_likePiece 134 = .ok (.iload 6, 2) := by decide +kernel
theorem kd_M_likePiece_136 : decode kb_M_likePiece 136 = .ok (.aload_n 0, 1) := by decide +kernel
theorem kd_M_likePiece_137 : decode kb_M_likePiece 137 = .ok (.getfield 19, 3) := by decide +kernel
theorem kd_M_likePiece_140 : decode kb_M_likePiece 140 = .ok (.iconst 0, 1) := by decide +kernel
theorem kd_M_likePiece_141 : decode kb_M_likePiece 141 = .ok (.iaload, 1) := by decide +kernel
theorem kd_M_likePiece_142 : decode kb_M_likePiece 142 = .ok (.if_icmp .ge 42, 3) := by decide +kernel
theorem kd_M_likePiece_145 : decode kb_M_likePiece 145 = .ok (.iload 5, 2) := by decide +kernel
theorem kd_M_likePiece_147 : decode kb_M_likePiece 147 = .ok (.ifCond .eq 37, 3) := by decide +kernel
theorem kd_M_likePiece_150 : decode kb_M_likePiece 150 = .ok (.aload_n 0, 1) := by decide +kernel
theorem kd_M_likePiece_151 : decode kb_M_likePiece 151 = .ok (.getfield 16, 3) := by decide +kernel
theorem kd_M_likePiece_154 : decode kb_M_likePiece 154 = .ok (.iload 6, 2) := by decide +kernel
theorem kd_M_likePiece_156 : decode kb_M_likePiece 156 = .ok (.iaload, 1) := by decide +kernel
theorem kd_M_likePiece_157 : decode kb_M_likePiece 157 = .ok (.aload_n 0, 1) := by decide +kernel
theorem kd_M_likePiece_158 : decode kb_M_likePiece 158 = .ok (.getfield 16, 3) := by decide +kernel
theorem kd_M_likePiece_161 : decode kb_M_likePiece 161 = .ok (.sipush 160, 3) := by decide +kernel
theorem kd_M_likePiece_164 : decode kb_M_likePiece 164 = .ok (.iload 6, 2) := by decide +kernel
theorem kd_M_likePiece_166 : decode kb_M_likePiece 166 = .ok (.iadd, 1) := by decide +kernel
theorem kd_M_likePiece_167 : decode kb_M_likePiece 167 = .ok (.iaload, 1) := by decide +kernel
theorem kd_M_likePiece_168 : decode kb_M_likePiece 168 = .ok (.if_icmp .ne 7, 3) := by decide +kernel
theorem kd_M_likePiece_171 : decode kb_M_likePiece 171 = .ok (.iconst 1, 1) := by decide +kernel
theorem kd_M_likePiece_172 : decode kb_M_likePiece 172 = .ok (.goto 4, 3) := by decide +kernel
theorem kd_M_likePiece_175 : decode kb_M_likePiece 175 = .ok (.iconst 0, 1) := by decide +kernel
theorem kd_M_likePiece_176 : decode kb_M_likePiece 176 = .ok (.istore 5, 2) := by decide +kernel
theorem kd_M_likePiece_178 : decode kb_M_likePiece 178 = .ok (.iinc 6 1, 3) := by decide +kernel
theorem kd_M_likePiece_181 : decode kb_M_likePiece 181 = .ok (.goto (-47), 3) := by decide +kernel
theorem kd_M_likePiece_184 : decode kb_M_likePiece 184 = .ok (.aload_n 0, 1) := by decide +kernel
theorem kd_M_likePiece_185 : decode kb_M_likePiece 185 = .ok (.getfield 13, 3) := by decide +kernel
theorem kd_M_likePiece_188 : decode kb_M_likePiece 188 = .ok (.bipush 12, 2) := by decide +kernel
theorem kd_M_likePiece_190 : decode kb_M_likePiece 190 = .ok (.iload_n 3, 1) := by decide +kernel
theorem kd_M_likePiece_191 : decode kb_M_likePiece 191 = .ok (.iastore, 1) := by decide +kernel
theorem kd_M_likePiece_192 : decode kb_M_likePiece 192 = .ok (.iload 5, 2) := by decide +kernel
theorem kd_M_likePiece_194 : decode kb_M_likePiece 194 = .ok (.ireturn, 1) := by decide +kernel
theorem kd_M_nameLike_0 : decode kb_M_nameLike 0 = .ok (.iload_n 2, 1) := by decide +kernel
theorem kd_M_nameLike_1 : decode kb_M_nameLike 1 = .ok (.ifCond .ge 7, 3) := by decide +kernel
theorem kd_M_nameLike_4 : decode kb_M_nameLike 4 = .ok (.iconst 0, 1) := by decide +kernel
theorem kd_M_nameLike_5 : decode kb_M_nameLike 5 = .ok (.goto 4, 3) := by decide +kernel
theorem kd_M_nameLike_8 : decode kb_M_nameLike 8 = .ok (.iload_n 2, 1) := by decide +kernel
theorem kd_M_nameLike_9 : decode kb_M_nameLike 9 = .ok (.istore_n 3, 1) := by decide +kernel
theorem kd_M_nameLike_10 : decode kb_M_nameLike 10 = .ok (.iload_n 3, 1) := by decide +kernel
theorem kd_M_nameLike_11 : decode kb_M_nameLike 11 = .ok (.aload_n 0, 1) := by decide +kernel
theorem kd_M_nameLike_12 : decode kb_M_nameLike 12 = .ok (.getfield 111, 3) := by decide +kernel
theorem kd_M_nameLike_15 : decode kb_M_nameLike 15 = .ok (.if_icmp .ge 20, 3) := by decide +kernel
theorem kd_M_nameLike_18 : decode kb_M_nameLike 18 = .ok (.aload_n 0, 1) := by decide +kernel
theorem kd_M_nameLike_19 : decode kb_M_nameLike 19 = .ok (.iload_n 1, 1) := by decide +kernel
theorem kd_M_nameLike_20 : decode kb_M_nameLike 20 = .ok (.iload_n 3, 1) := by decide +kernel
theorem kd_M_nameLike_21 : decode kb_M_nameLike 21 = .ok (.invokevirtual 114, 3) := by decide +kernel
theorem kd_M_nameLike_24 : decode kb_M_nameLike 24 = .ok (.ifCond .eq 5, 3) := by decide +kernel
theorem kd_M_nameLike_27 : decode kb_M_nameLike 27 = .ok (.iload_n 3, 1) := by decide +kernel
theorem kd_M_nameLike_28 : decode kb_M_nameLike 28 = .ok (.ireturn, 1) := by decide +kernel
theorem kd_M_nameLike_29 : decode kb_M_nameLike 29 = .ok (.iinc 3 1, 3) := by decide +kernel
theorem kd_M_nameLike_32 : decode kb_M_nameLike 32 = .ok (.goto (-22), 3) := by decide +kernel
theorem kd_M_nameLike_35 : decode kb_M_nameLike 35 = .ok (.iconst (-1), 1) := by decide +kernel
theorem kd_M_nameLike_36 : decode kb_M_nameLike 36 = .ok (.ireturn, 1) := by decide +kernel
theorem kd_M_looksLike_0 : decode kb_M_looksLike 0 = .ok (.aload_n 0, 1) := by decide +kernel
theorem kd_M_looksLike_1 : decode kb_M_looksLike 1 = .ok (.iload_n 1, 1) := by decide +kernel
theorem kd_M_looksLike_2 : decode kb_M_looksLike 2 = .ok (.iload_n 2, 1) := by decide +kernel
theorem kd_M_looksLike_3 : decode kb_M_looksLike 3 = .ok (.invokevirtual 62, 3) := by decide +kernel
theorem kd_M_looksLike_6 : decode kb_M_looksLike 6 = .ok (.ifCond .ne 16, 3) := by decide +kernel
theorem kd_M_looksLike_9 : decode kb_M_looksLike 9 = .ok (.aload_n 0, 1) := by decide +kernel
theorem kd_M_looksLike_10 : decode kb_M_looksLike 10 = .ok (.iload_n 1, 1) := by decide +kernel
theorem kd_M_looksLike_11 : decode kb_M_looksLike 11 = .ok (.iload_n 2, 1) := by decide +kernel
theorem kd_M_looksLike_12 : decode kb_M_looksLike 12 = .ok (.invokevirtual 66, 3) := by decide +kernel
theorem kd_M_looksLike_15 : decode kb_M_looksLike 15 = .ok (.ifCond .ne 7, 3) := by decide +kernel
theorem kd_M_looksLike_18 : decode kb_M_looksLike 18 = .ok (.iconst 1, 1) := by decide +kernel
theorem kd_M_looksLike_19 : decode kb_M_looksLike 19 = .ok (.goto 4, 3) := by decide +kernel
theorem kd_M_looksLike_22 : decode kb_M_looksLike 22 = .ok (.iconst 0, 1) := by decide +kernel
theorem kd_M_looksLike_23 : decode kb_M_looksLike 23 = .ok (.ireturn, 1) := by decide +kernel
theorem kd_M_isSame_0 : decode kb_M_isSame 0 = .ok (.aload_n 0, 1) := by decide +kernel
theorem kd_M_isSame_1 : decode kb_M_isSame 1 = .ok (.getfield 13, 3) := by decide +kernel
theorem kd_M_isSame_4 : decode kb_M_isSame 4 = .ok (.iload_n 1, 1) := by decide +kernel
theorem kd_M_isSame_5 : decode kb_M_isSame 5 = .ok (.iaload, 1) := by decide +kernel
theorem kd_M_isSame_6 : decode kb_M_isSame 6 = .ok (.aload_n 0, 1) := by decide +kernel
theorem kd_M_isSame_7 : decode kb_M_isSame 7 = .ok (.getfield 13, 3) := by decide +kernel
theorem kd_M_isSame_10 : decode kb_M_isSame 10 = .ok (.iload_n 2, 1) := by decide +kernel
theorem kd_M_isSame_11 : decode kb_M_isSame 11 = .ok (.iaload, 1) := by decide +kernel
theorem kd_M_isSame_12 : decode kb_M_isSame 12 = .ok (.if_icmp .ne 7, 3) := by decide +kernel
theorem kd_M_isSame_15 : decode kb_M_isSame 15 = .ok (.iconst 1, 1) := by decide +kernel
theorem kd_M_isSame_16 : decode kb_M_isSame 16 = .ok (.goto 4, 3) := by decide +kernel
theorem kd_M_isSame_19 : decode kb_M_isSame 19 = .ok (.iconst 0, 1) := by decide +kernel
theorem kd_M_isSame_20 : decode kb_M_isSame 20 = .ok (.istore_n 3, 1) := by decide +kernel
theorem kd_M_isSame_21 : decode kb_M_isSame 21 = .ok (.iconst 0, 1) := by decide +kernel
theorem kd_M_isSame_22 : decode kb_M_isSame 22 = .ok (.istore 4, 2) := by decide +kernel
theorem kd_M_isSame_24 : decode kb_M_isSame 24 = .ok (.iload 4, 2) := by decide +kernel
theorem kd_M_isSame_26 : decode kb_M_isSame 26 = .ok (.aload_n 0, 1) := by decide +kernel
theorem kd_M_isSame_27 : decode kb_M_isSame 27 = .ok (.getfield 13, 3) := by decide +kernel
theorem kd_M_isSame_30 : decode kb_M_isSame 30 = .ok (.iload_n 1, 1) := by decide +kernel
theorem kd_M_isSame_31 : decode kb_M_isSame 31 = .ok (.iaload, 1) := by decide +kernel
theorem kd_M_isSame_32 : decode kb_M_isSame 32 = .ok (.if_icmp .ge 46, 3) := by decide +kernel
theorem kd_M_isSame_35 : decode kb_M_isSame 35 = .ok (.iload_n 3, 1) := by decide +kernel
theorem kd_M_isSame_36 : decode kb_M_isSame 36 = .ok (.ifCond .eq 42, 3) := by decide +kernel
theorem kd_M_isSame_39 : decode kb_M_isSame 39 = .ok (.aload_n 0, 1) := by decide +kernel
theorem kd_M_isSame_40 : decode kb_M_isSame 40 = .ok (.getfield 7, 3) := by decide +kernel
theorem kd_M_isSame_43 : decode kb_M_isSame 43 = .ok (.bipush 48, 2) := by decide +kernel
theorem kd_M_isSame_45 : decode kb_M_isSame 45 = .ok (.iload_n 1, 1) := by decide +kernel
theorem kd_M_isSame_46 : decode kb_M_isSame 46 = .ok (.imul, 1) := by decide +kernel
theorem kd_M_isSame_47 : decode kb_M_isSame 47 = .ok (.iload 4, 2) := by decide +kernel
theorem kd_M_isSame_49 : decode kb_M_isSame 49 = .ok (.iadd, 1) := by decide +kernel
theorem kd_M_isSame_50 : decode kb_M_isSame 50 = .ok (.iaload, 1) := by decide +kernel
theorem kd_M_isSame_51 : decode kb_M_isSame 51 = .ok (.aload_n 0, 1) := by decide +kernel
theorem kd_M_isSame_52 : decode kb_M_isSame 52 = .ok (.getfield 7, 3) := by decide +kernel
theorem kd_M_isSame_55 : decode kb_M_isSame 55 = .ok (.bipush 48, 2) := by decide +kernel
theorem kd_M_isSame_57 : decode kb_M_isSame 57 = .ok (.iload_n 2, 1) := by decide +kernel
theorem kd_M_isSame_58 : decode kb_M_isSame 58 = .ok (.imul, 1) := by decide +kernel
theorem kd_M_isSame_59 : decode kb_M_isSame 59 = .ok (.iload 4, 2) := by decide +kernel
theorem kd_M_isSame_61 : decode kb_M_isSame 61 = .ok (.iadd, 1) := by decide +kernel
theorem kd_M_isSame_62 : decode kb_M_isSame 62 = .ok (.iaload, 1) := by decide +kernel
theorem kd_M_isSame_63 : decode kb_M_isSame 63 = .ok (.if_icmp .ne 7, 3) := by decide +kernel
theorem kd_M_isSame_66 : decode kb_M_isSame 66 = .ok (.iconst 1, 1) := by decide +kernel
theorem kd_M_isSame_67 : decode kb_M_isSame 67 = .ok (.goto 4, 3) := by decide +kernel
theorem kd_M_isSame_70 : decode kb_M_isSame 70 = .ok (.iconst 0, 1) := by decide +kernel
theorem kd_M_isSame_71 : decode kb_M_isSame 71 = .ok (.istore_n 3, 1) := by decide +kernel
theorem kd_M_isSame_72 : decode kb_M_isSame 72 = .ok (.iinc 4 1, 3) := by decide +kernel
theorem kd_M_isSame_75 : decode kb_M_isSame 75 = .ok (.goto (-51), 3) := by decide +kernel
theorem kd_M_isSame_78 : decode kb_M_isSame 78 = .ok (.iload_n 3, 1) := by decide +kernel
theorem kd_M_isSame_79 : decode kb_M_isSame 79 = .ok (.ireturn, 1) := by decide +kernel
theorem kd_M_compared_0 : decode kb_M_compared 0 = .ok (.aload_n 0, 1) := by decide +kernel
theorem kd_M_compared_1 : decode kb_M_compared 1 = .ok (.iload_n 1, 1) := by decide +kernel
theorem kd_M_compared_2 : decode kb_M_compared 2 = .ok (.iconst 0, 1) := by decide +kernel
theorem kd_M_compared_3 : decode kb_M_compared 3 = .ok (.invokevirtual 59, 3) := by decide +kernel
theorem kd_M_compared_6 : decode kb_M_compared 6 = .ok (.aload_n 0, 1) := by decide +kernel
theorem kd_M_compared_7 : decode kb_M_compared 7 = .ok (.iload_n 2, 1) := by decide +kernel
theorem kd_M_compared_8 : decode kb_M_compared 8 = .ok (.iconst 1, 1) := by decide +kernel
theorem kd_M_compared_9 : decode kb_M_compared 9 = .ok (.invokevirtual 59, 3) := by decide +kernel
theorem kd_M_compared_12 : decode kb_M_compared 12 = .ok (.iconst 0, 1) := by decide +kernel
theorem kd_M_compared_13 : decode kb_M_compared 13 = .ok (.istore_n 3, 1) := by decide +kernel
theorem kd_M_compared_14 : decode kb_M_compared 14 = .ok (.iload_n 3, 1) := by decide +kernel
theorem kd_M_compared_15 : decode kb_M_compared 15 = .ok (.aload_n 0, 1) := by decide +kernel
theorem kd_M_compared_16 : decode kb_M_compared 16 = .ok (.getfield 19, 3) := by decide +kernel
theorem kd_M_compared_19 : decode kb_M_compared 19 = .ok (.iconst 0, 1) := by decide +kernel
theorem kd_M_compared_20 : decode kb_M_compared 20 = .ok (.iaload, 1) := by decide +kernel
theorem kd_M_compared_21 : decode kb_M_compared 21 = .ok (.if_icmp .ge 38, 3) := by decide +kernel
theorem kd_M_compared_24 : decode kb_M_compared 24 = .ok (.iload_n 3, 1) := by decide +kernel
theorem kd_M_compared_25 : decode kb_M_compared 25 = .ok (.aload_n 0, 1) := by decide +kernel
theorem kd_M_compared_26 : decode kb_M_compared 26 = .ok (.getfield 19, 3) := by decide +kernel
theorem kd_M_compared_29 : decode kb_M_compared 29 = .ok (.iconst 1, 1) := by decide +kernel
theorem kd_M_compared_30 : decode kb_M_compared 30 = .ok (.iaload, 1) := by decide +kernel
theorem kd_M_compared_31 : decode kb_M_compared 31 = .ok (.if_icmp .ge 28, 3) := by decide +kernel
theorem kd_M_compared_34 : decode kb_M_compared 34 = .ok (.aload_n 0, 1) := by decide +kernel
theorem kd_M_compared_35 : decode kb_M_compared 35 = .ok (.getfield 16, 3) := by decide +kernel
theorem kd_M_compared_38 : decode kb_M_compared 38 = .ok (.iload_n 3, 1) := by decide +kernel
theorem kd_M_compared_39 : decode kb_M_compared 39 = .ok (.iaload, 1) := by decide +kernel
theorem kd_M_compared_40 : decode kb_M_compared 40 = .ok (.aload_n 0, 1) := by decide +kernel
theorem kd_M_compared_41 : decode kb_M_compared 41 = .ok (.getfield 16, 3) := by decide +kernel
theorem kd_M_compared_44 : decode kb_M_compared 44 = .ok (.sipush 160, 3) := by decide +kernel
theorem kd_M_compared_47 : decode kb_M_compared 47 = .ok (.iload_n 3, 1) := by decide +kernel
theorem kd_M_compared_48 : decode kb_M_compared 48 = .ok (.iadd, 1) := by decide +kernel
theorem kd_M_compared_49 : decode kb_M_compared 49 = .ok (.iaload, 1) := by decide +kernel
theorem kd_M_compared_50 : decode kb_M_compared 50 = .ok (.if_icmp .ne 9, 3) := by decide +kernel
theorem kd_M_compared_53 : decode kb_M_compared 53 = .ok (.iinc 3 1, 3) := by decide +kernel
theorem kd_M_compared_56 : decode kb_M_compared 56 = .ok (.goto (-42), 3) := by decide +kernel
theorem kd_M_compared_59 : decode kb_M_compared 59 = .ok (.iload_n 3, 1) := by decide +kernel
theorem kd_M_compared_60 : decode kb_M_compared 60 = .ok (.aload_n 0, 1) := by decide +kernel
theorem kd_M_compared_61 : decode kb_M_compared 61 = .ok (.getfield 19, 3) := by decide +kernel
theorem kd_M_compared_64 : decode kb_M_compared 64 = .ok (.iconst 0, 1) := by decide +kernel
theorem kd_M_compared_65 : decode kb_M_compared 65 = .ok (.iaload, 1) := by decide +kernel
theorem kd_M_compared_66 : decode kb_M_compared 66 = .ok (.if_icmp .ge 12, 3) := by decide +kernel
theorem kd_M_compared_69 : decode kb_M_compared 69 = .ok (.aload_n 0, 1) := by decide +kernel
theorem kd_M_compared_70 : decode kb_M_compared 70 = .ok (.getfield 16, 3) := by decide +kernel
theorem kd_M_compared_73 : decode kb_M_compared 73 = .ok (.iload_n 3, 1) := by decide +kernel
theorem kd_M_compared_74 : decode kb_M_compared 74 = .ok (.iaload, 1) := by decide +kernel
theorem kd_M_compared_75 : decode kb_M_compared 75 = .ok (.goto 4, 3) := by decide +kernel
theorem kd_M_compared_78 : decode kb_M_compared 78 = .ok (.iconst (-1), 1) := by decide +kernel
theorem kd_M_compared_79 : decode kb_M_compared 79 = .ok (.istore 4, 2) := by decide +kernel
theorem kd_M_compared_81 : decode kb_M_compared 81 = .ok (.iload_n 3, 1) := by decide +kernel
theorem kd_M_compared_82 : decode kb_M_compared 82 = .ok (.aload_n 0, 1) := by decide +kernel
theorem kd_M_compared_83 : decode kb_M_compared 83 = .ok (.getfield 19, 3) := by decide +kernel
theorem kd_M_compared_86 : decode kb_M_compared 86 = .ok (.iconst 1, 1) := by decide +kernel
theorem kd_M_compared_87 : decode kb_M_compared 87 = .ok (.iaload, 1) := by decide +kernel
theorem kd_M_compared_88 : decode kb_M_compared 88 = .ok (.if_icmp .ge 16, 3) := by decide +kernel
theorem kd_M_compared_91 : decode kb_M_compared 91 = .ok (.aload_n 0, 1) := by decide +kernel
theorem kd_M_compared_92 : decode kb_M_compared 92 = .ok (.getfield 16, 3) := by decide +kernel
theorem kd_M_compared_95 : decode kb_M_compared 95 = .ok (.sipush 160, 3) := by decide +kernel
theorem kd_M_compared_98 : decode kb_M_compared 98 = .ok (.iload_n 3, 1) := by decide +kernel
theorem kd_M_compared_99 : decode kb_M_compared 99 = .ok (.iadd, 1) := by decide +kernel
theorem kd_M_compared_100 : decode kb_M_compared 100 = .ok (.iaload, 1) := by decide +kernel
theorem kd_M_compared_101 : decode kb_M_compared 101 = .ok (.goto 4, 3) := by decide +kernel
theorem kd_M_compared_104 : decode kb_M_compared 104 = .ok (.iconst (-1), 1) := by decide +kernel
theorem kd_M_compared_105 : decode kb_M_compared 105 = .ok (.istore 5, 2) := by decide +kernel
theorem kd_M_compared_107 : decode kb_M_compared 107 = .ok (.iload 4, 2) := by decide +kernel
theorem kd_M_compared_109 : decode kb_M_compared 109 = .ok (.iload 5, 2) := by decide +kernel
theorem kd_M_compared_111 : decode kb_M_compared 111 = .ok (.isub, 1) := by decide +kernel
theorem kd_M_compared_112 : decode kb_M_compared 112 = .ok (.ireturn, 1) := by decide +kernel
theorem kd_M_register_0 : decode kb_M_register 0 = .ok (.aload_n 0, 1) := by decide +kernel
theorem kd_M_register_1 : decode kb_M_register 1 = .ok (.iconst 0, 1) := by decide +kernel
theorem kd_M_register_2 : decode kb_M_register 2 = .ok (.putfield 25, 3) := by decide +kernel
theorem kd_M_register_5 : decode kb_M_register 5 = .ok (.aload_n 0, 1) := by decide +kernel
theorem kd_M_register_6 : decode kb_M_register 6 = .ok (.getfield 13, 3) := by decide +kernel
theorem kd_M_register_9 : decode kb_M_register 9 = .ok (.bipush 12, 2) := by decide +kernel
theorem kd_M_register_11 : decode kb_M_register 11 = .ok (.iaload, 1) := by decide +kernel
theorem kd_M_register_12 : decode kb_M_register 12 = .ok (.ifCond .eq 18, 3) := by decide +kernel
theorem kd_M_register_15 : decode kb_M_register 15 = .ok (.aload_n 0, 1) := by decide +kernel
theorem kd_M_register_16 : decode kb_M_register 16 = .ok (.iconst 0, 1) := by decide +kernel
theorem kd_M_register_17 : decode kb_M_register 17 = .ok (.invokevirtual 98, 3) := by decide +kernel
theorem kd_M_register_20 : decode kb_M_register 20 = .ok (.aload_n 0, 1) := by decide +kernel
theorem kd_M_register_21 : decode kb_M_register 21 = .ok (.getfield 13, 3) := by decide +kernel
theorem kd_M_register_24 : decode kb_M_register 24 = .ok (.bipush 12, 2) := by decide +kernel
theorem kd_M_register_26 : decode kb_M_register 26 = .ok (.iaload, 1) := by decide +kernel
theorem kd_M_register_27 : decode kb_M_register 27 = .ok (.if_icmp .eq 9, 3) := by decide +kernel
theorem kd_M_register_30 : decode kb_M_register 30 = .ok (.aload_n 0, 1) := by decide +kernel
theorem kd_M_register_31 : decode kb_M_register 31 = .ok (.iconst 1, 1) := by decide +kernel
theorem kd_M_register_32 : decode kb_M_register 32 = .ok (.invokevirtual 73, 3) := by decide +kernel
theorem kd_M_register_35 : decode kb_M_register 35 = .ok (.ireturn, 1) := by decide +kernel
theorem kd_M_register_36 : decode kb_M_register 36 = .ok (.iconst 0, 1) := by decide +kernel
theorem kd_M_register_37 : decode kb_M_register 37 = .ok (.istore_n 1, 1) := by decide +kernel
theorem kd_M_register_38 : decode kb_M_register 38 = .ok (.iconst 0, 1) := by decide +kernel
theorem kd_M_register_39 : decode kb_M_register 39 = .ok (.istore_n 2, 1) := by decide +kernel
theorem kd_M_register_40 : decode kb_M_register 40 = .ok (.iload_n 2, 1) := by decide +kernel
theorem kd_M_register_41 : decode kb_M_register 41 = .ok (.aload_n 0, 1) := by decide +kernel
theorem kd_M_register_42 : decode kb_M_register 42 = .ok (.getfield 111, 3) := by decide +kernel
theorem kd_M_register_45 : decode kb_M_register 45 = .ok (.if_icmp .ge 29, 3) := by decide +kernel
theorem kd_M_register_48 : decode kb_M_register 48 = .ok (.iload_n 1, 1) := by decide +kernel
theorem kd_M_register_49 : decode kb_M_register 49 = .ok (.ifCond .ne 13, 3) := by decide +kernel
theorem kd_M_register_52 : decode kb_M_register 52 = .ok (.aload_n 0, 1) := by decide +kernel
theorem kd_M_register_53 : decode kb_M_register 53 = .ok (.bipush 12, 2) := by decide +kernel
theorem kd_M_register_55 : decode kb_M_register 55 = .ok (.iload_n 2, 1) := by decide +kernel
theorem kd_M_register_56 : decode kb_M_register 56 = .ok (.invokevirtual 62, 3) := by decide +kernel
theorem kd_M_register_59 : decode kb_M_register 59 = .ok (.ifCond .eq 7, 3) := by decide +kernel
theorem kd_M_register_62 : decode kb_M_register 62 = .ok (.iconst 1, 1) := by decide +kernel
theorem kd_M_register_63 : decode kb_M_register 63 = .ok (.goto 4, 3) := by decide +kernel
theorem kd_M_register_66 : decode kb_M_register 66 = .ok (.iconst 0, 1) := by decide +kernel
theorem kd_M_register_67 : decode kb_M_register 67 = .ok (.istore_n 1, 1) := by decide +kernel
theorem kd_M_register_68 : decode kb_M_register 68 = .ok (.iinc 2 1, 3) := by decide +kernel
theorem kd_M_register_71 : decode kb_M_register 71 = .ok (.goto (-31), 3) := by decide +kernel
theorem kd_M_register_74 : decode kb_M_register 74 = .ok (.aload_n 0, 1) := by decide +kernel
theorem kd_M_register_75 : decode kb_M_register 75 = .ok (.getfield 111, 3) := by decide +kernel
theorem kd_M_register_78 : decode kb_M_register 78 = .ok (.bipush 12, 2) := by decide +kernel
theorem kd_M_register_80 : decode kb_M_register 80 = .ok (.if_icmp .eq 7, 3) := by decide +kernel
theorem kd_M_register_83 : decode kb_M_register 83 = .ok (.iload_n 1, 1) := by decide +kernel
theorem kd_M_register_84 : decode kb_M_register 84 = .ok (.ifCond .eq 9, 3) := by decide +kernel
theorem kd_M_register_87 : decode kb_M_register 87 = .ok (.aload_n 0, 1) := by decide +kernel
theorem kd_M_register_88 : decode kb_M_register 88 = .ok (.iconst 2, 1) := by decide +kernel
theorem kd_M_register_89 : decode kb_M_register 89 = .ok (.invokevirtual 73, 3) := by decide +kernel
theorem kd_M_register_92 : decode kb_M_register 92 = .ok (.ireturn, 1) := by decide +kernel
theorem kd_M_register_93 : decode kb_M_register 93 = .ok (.aload_n 0, 1) := by decide +kernel
theorem kd_M_register_94 : decode kb_M_register 94 = .ok (.iconst 0, 1) := by decide +kernel
theorem kd_M_register_95 : decode kb_M_register 95 = .ok (.aload_n 0, 1) := by decide +kernel
theorem kd_M_register_96 : decode kb_M_register 96 = .ok (.getfield 13, 3) := by decide +kernel
theorem kd_M_register_99 : decode kb_M_register 99 = .ok (.bipush 12, 2) := by decide +kernel
theorem kd_M_register_101 : decode kb_M_register 101 = .ok (.iaload, 1) := by decide +kernel
theorem kd_M_register_102 : decode kb_M_register 102 = .ok (.aload_n 0, 1) := by decide +kernel
theorem kd_M_register_103 : decode kb_M_register 103 = .ok (.getfield 111, 3) := by decide +kernel
theorem kd_M_register_106 : decode kb_M_register 106 = .ok (.invokevirtual 104, 3) := by decide +kernel
theorem kd_M_register_109 : decode kb_M_register 109 = .ok (.aload_n 0, 1) := by decide +kernel
theorem kd_M_register_110 : decode kb_M_register 110 = .ok (.dup, 1) := by decide +kernel
theorem kd_M_register_111 : decode kb_M_register 111 = .ok (.getfield 111, 3) := by decide +kernel
theorem kd_M_register_114 : decode kb_M_register 114 = .ok (.iconst 1, 1) := by decide +kernel
theorem kd_M_register_115 : decode kb_M_register 115 = .ok (.iadd, 1) := by decide +kernel
theorem kd_M_register_116 : decode kb_M_register 116 = .ok (.putfield 111, 3) := by decide +kernel
theorem kd_M_register_119 : decode kb_M_register 119 = .ok (.aload_n 0, 1) := by decide +kernel
theorem kd_M_register_120 : decode kb_M_register 120 = .ok (.getfield 111, 3) := by decide +kernel
theorem kd_M_register_123 : decode kb_M_register 123 = .ok (.ireturn, 1) := by decide +kernel
theorem kd_M_withdraw_0 : decode kb_M_withdraw 0 = .ok (.aload_n 0, 1) := by decide +kernel
theorem kd_M_withdraw_1 : decode kb_M_withdraw 1 = .ok (.iconst 0, 1) := by decide +kernel
theorem kd_M_withdraw_2 : decode kb_M_withdraw 2 = .ok (.putfield 25, 3) := by decide +kernel
theorem kd_M_withdraw_5 : decode kb_M_withdraw 5 = .ok (.iload_n 1, 1) := by decide +kernel
theorem kd_M_withdraw_6 : decode kb_M_withdraw 6 = .ok (.ifCond .lt 11, 3) := by decide +kernel
theorem kd_M_withdraw_9 : decode kb_M_withdraw 9 = .ok (.iload_n 1, 1) := by decide +kernel
theorem kd_M_withdraw_10 : decode kb_M_withdraw 10 = .ok (.aload_n 0, 1) := by decide +kernel
theorem kd_M_withdraw_11 : decode kb_M_withdraw 11 = .ok (.getfield 111, 3) := by decide +kernel
theorem kd_M_withdraw_14 : decode kb_M_withdraw 14 = .ok (.if_icmp .lt 9, 3) := by decide +kernel
theorem kd_M_withdraw_17 : decode kb_M_withdraw 17 = .ok (.aload_n 0, 1) := by decide +kernel
theorem kd_M_withdraw_18 : decode kb_M_withdraw 18 = .ok (.iconst 1, 1) := by decide +kernel
theorem kd_M_withdraw_19 : decode kb_M_withdraw 19 = .ok (.invokevirtual 73, 3) := by decide +kernel
theorem kd_M_withdraw_22 : decode kb_M_withdraw 22 = .ok (.ireturn, 1) := by decide +kernel
theorem kd_M_withdraw_23 : decode kb_M_withdraw 23 = .ok (.aload_n 0, 1) := by decide +kernel
theorem kd_M_withdraw_24 : decode kb_M_withdraw 24 = .ok (.dup, 1) := by decide +kernel
theorem kd_M_withdraw_25 : decode kb_M_withdraw 25 = .ok (.getfield 111, 3) := by decide +kernel
theorem kd_M_withdraw_28 : decode kb_M_withdraw 28 = .ok (.iconst 1, 1) := by decide +kernel
theorem kd_M_withdraw_29 : decode kb_M_withdraw 29 = .ok (.isub, 1) := by decide +kernel
theorem kd_M_withdraw_30 : decode kb_M_withdraw 30 = .ok (.putfield 111, 3) := by decide +kernel
theorem kd_M_withdraw_33 : decode kb_M_withdraw 33 = .ok (.iload_n 1, 1) := by decide +kernel
theorem kd_M_withdraw_34 : decode kb_M_withdraw 34 = .ok (.istore_n 2, 1) := by decide +kernel
theorem kd_M_withdraw_35 : decode kb_M_withdraw 35 = .ok (.iload_n 2, 1) := by decide +kernel
theorem kd_M_withdraw_36 : decode kb_M_withdraw 36 = .ok (.aload_n 0, 1) := by decide +kernel
theorem kd_M_withdraw_37 : decode kb_M_withdraw 37 = .ok (.getfield 111, 3) := by decide +kernel
theorem kd_M_withdraw_40 : decode kb_M_withdraw 40 = .ok (.if_icmp .ge 62, 3) := by decide +kernel
theorem kd_M_withdraw_43 : decode kb_M_withdraw 43 = .ok (.aload_n 0, 1) := by decide +kernel
theorem kd_M_withdraw_44 : decode kb_M_withdraw 44 = .ok (.getfield 13, 3) := by decide +kernel
theorem kd_M_withdraw_47 : decode kb_M_withdraw 47 = .ok (.iload_n 2, 1) := by decide +kernel
theorem kd_M_withdraw_48 : decode kb_M_withdraw 48 = .ok (.aload_n 0, 1) := by decide +kernel
theorem kd_M_withdraw_49 : decode kb_M_withdraw 49 = .ok (.getfield 13, 3) := by decide +kernel
theorem kd_M_withdraw_52 : decode kb_M_withdraw 52 = .ok (.iload_n 2, 1) := by decide +kernel
theorem kd_M_withdraw_53 : decode kb_M_withdraw 53 = .ok (.iconst 1, 1) := by decide +kernel
theorem kd_M_withdraw_54 : decode kb_M_withdraw 54 = .ok (.iadd, 1) := by decide +kernel
theorem kd_M_withdraw_55 : decode kb_M_withdraw 55 = .ok (.iaload, 1) := by decide +kernel
theorem kd_M_withdraw_56 : decode kb_M_withdraw 56 = .ok (.iastore, 1) := by decide +kernel
theorem kd_M_withdraw_57 : decode kb_M_withdraw 57 = .ok (.iconst 0, 1) := by decide +kernel
theorem kd_M_withdraw_58 : decode kb_M_withdraw 58 = .ok (.istore_n 3, 1) := by decide +kernel
theorem kd_M_withdraw_59 : decode kb_M_withdraw 59 = .ok (.iload_n 3, 1) := by decide +kernel
theorem kd_M_withdraw_60 : decode kb_M_withdraw 60 = .ok (.bipush 48, 2) := by decide +kernel
theorem kd_M_withdraw_62 : decode kb_M_withdraw 62 = .ok (.if_icmp .ge 34, 3) := by decide +kernel
theorem kd_M_withdraw_65 : decode kb_M_withdraw 65 = .ok (.aload_n 0, 1) := by decide +kernel
theorem kd_M_withdraw_66 : decode kb_M_withdraw 66 = .ok (.getfield 7, 3) := by decide +kernel
theorem kd_M_withdraw_69 : decode kb_M_withdraw 69 = .ok (.bipush 48, 2) := by decide +kernel
theorem kd_M_withdraw_71 : decode kb_M_withdraw 71 = .ok (.iload_n 2, 1) := by decide +kernel
theorem kd_M_withdraw_72 : decode kb_M_withdraw 72 = .ok (.imul, 1) := by decide +kernel
theorem kd_M_withdraw_73 : decode kb_M_withdraw 73 = .ok (.iload_n 3, 1) := by decide +kernel
theorem kd_M_withdraw_74 : decode kb_M_withdraw 74 = .ok (.iadd, 1) := by decide +kernel
theorem kd_M_withdraw_75 : decode kb_M_withdraw 75 = .ok (.aload_n 0, 1) := by decide +kernel
theorem kd_M_withdraw_76 : decode kb_M_withdraw 76 = .ok (.getfield 7, 3) := by decide +kernel
theorem kd_M_withdraw_79 : decode kb_M_withdraw 79 = .ok (.bipush 48, 2) := by decide +kernel
theorem kd_M_withdraw_81 : decode kb_M_withdraw 81 = .ok (.iload_n 2, 1) := by decide +kernel
theorem kd_M_withdraw_82 : decode kb_M_withdraw 82 = .ok (.imul, 1) := by decide +kernel
theorem kd_M_withdraw_83 : decode kb_M_withdraw 83 = .ok (.bipush 48, 2) := by decide +kernel
theorem kd_M_withdraw_85 : decode kb_M_withdraw 85 = .ok (.iadd, 1) := by decide +kernel
theorem kd_M_withdraw_86 : decode kb_M_withdraw 86 = .ok (.iload_n 3, 1) := by decide +kernel
theorem kd_M_withdraw_87 : decode kb_M_withdraw 87 = .ok (.iadd, 1) := by decide +kernel
theorem kd_M_withdraw_88 : decode kb_M_withdraw 88 = .ok (.iaload, 1) := by decide +kernel
theorem kd_M_withdraw_89 : decode kb_M_withdraw 89 = .ok (.iastore, 1) := by decide +kernel
theorem kd_M_withdraw_90 : decode kb_M_withdraw 90 = .ok (.iinc 3 1, 3) := by decide +kernel
theorem kd_M_withdraw_93 : decode kb_M_withdraw 93 = .ok (.goto (-34), 3) := by decide +kernel
theorem kd_M_withdraw_96 : decode kb_M_withdraw 96 = .ok (.iinc 2 1, 3) := by decide +kernel
theorem kd_M_withdraw_99 : decode kb_M_withdraw 99 = .ok (.goto (-64), 3) := by decide +kernel
theorem kd_M_withdraw_102 : decode kb_M_withdraw 102 = .ok (.aload_n 0, 1) := by decide +kernel
theorem kd_M_withdraw_103 : decode kb_M_withdraw 103 = .ok (.getfield 111, 3) := by decide +kernel
theorem kd_M_withdraw_106 : decode kb_M_withdraw 106 = .ok (.ireturn, 1) := by decide +kernel
theorem kd_M_ranked_0 : decode kb_M_ranked 0 = .ok (.aload_n 0, 1) := by decide +kernel
theorem kd_M_ranked_1 : decode kb_M_ranked 1 = .ok (.iconst 0, 1) := by decide +kernel
theorem kd_M_ranked_2 : decode kb_M_ranked 2 = .ok (.putfield 25, 3) := by decide +kernel
theorem kd_M_ranked_5 : decode kb_M_ranked 5 = .ok (.iconst 0, 1) := by decide +kernel
theorem kd_M_ranked_6 : decode kb_M_ranked 6 = .ok (.istore_n 2, 1) := by decide +kernel
theorem kd_M_ranked_7 : decode kb_M_ranked 7 = .ok (.iload_n 2, 1) := by decide +kernel
theorem kd_M_ranked_8 : decode kb_M_ranked 8 = .ok (.aload_n 0, 1) := by decide +kernel
theorem kd_M_ranked_9 : decode kb_M_ranked 9 = .ok (.getfield 111, 3) := by decide +kernel
theorem kd_M_ranked_12 : decode kb_M_ranked 12 = .ok (.if_icmp .ge 20, 3) := by decide +kernel
theorem kd_M_ranked_15 : decode kb_M_ranked 15 = .ok (.aload_n 0, 1) := by decide +kernel
theorem kd_M_ranked_16 : decode kb_M_ranked 16 = .ok (.iload_n 2, 1) := by decide +kernel
theorem kd_M_ranked_17 : decode kb_M_ranked 17 = .ok (.invokevirtual 124, 3) := by decide +kernel
theorem kd_M_ranked_20 : decode kb_M_ranked 20 = .ok (.iload_n 1, 1) := by decide +kernel
theorem kd_M_ranked_21 : decode kb_M_ranked 21 = .ok (.if_icmp .ne 5, 3) := by decide +kernel
theorem kd_M_ranked_24 : decode kb_M_ranked 24 = .ok (.iload_n 2, 1) := by decide +kernel
theorem kd_M_ranked_25 : decode kb_M_ranked 25 = .ok (.ireturn, 1) := by decide +kernel
theorem kd_M_ranked_26 : decode kb_M_ranked 26 = .ok (.iinc 2 1, 3) := by decide +kernel
theorem kd_M_ranked_29 : decode kb_M_ranked 29 = .ok (.goto (-22), 3) := by decide +kernel
theorem kd_M_ranked_32 : decode kb_M_ranked 32 = .ok (.aload_n 0, 1) := by decide +kernel
theorem kd_M_ranked_33 : decode kb_M_ranked 33 = .ok (.iconst 1, 1) := by decide +kernel
theorem kd_M_ranked_34 : decode kb_M_ranked 34 = .ok (.invokevirtual 73, 3) := by decide +kernel
theorem kd_M_ranked_37 : decode kb_M_ranked 37 = .ok (.ireturn, 1) := by decide +kernel
theorem kd_M_rankOf_0 : decode kb_M_rankOf 0 = .ok (.iconst 0, 1) := by decide +kernel
theorem kd_M_rankOf_1 : decode kb_M_rankOf 1 = .ok (.istore_n 2, 1) := by decide +kernel
theorem kd_M_rankOf_2 : decode kb_M_rankOf 2 = .ok (.iconst 0, 1) := by decide +kernel
theorem kd_M_rankOf_3 : decode kb_M_rankOf 3 = .ok (.istore_n 3, 1) := by decide +kernel
theorem kd_M_rankOf_4 : decode kb_M_rankOf 4 = .ok (.iload_n 3, 1) := by decide +kernel
theorem kd_M_rankOf_5 : decode kb_M_rankOf 5 = .ok (.aload_n 0, 1) := by decide +kernel
theorem kd_M_rankOf_6 : decode kb_M_rankOf 6 = .ok (.getfield 111, 3) := by decide +kernel
theorem kd_M_rankOf_9 : decode kb_M_rankOf 9 = .ok (.if_icmp .ge 49, 3) := by decide +kernel
theorem kd_M_rankOf_12 : decode kb_M_rankOf 12 = .ok (.iload_n 3, 1) := by decide +kernel
theorem kd_M_rankOf_13 : decode kb_M_rankOf 13 = .ok (.iload_n 1, 1) := by decide +kernel
theorem kd_M_rankOf_14 : decode kb_M_rankOf 14 = .ok (.if_icmp .ne 7, 3) := by decide +kernel
theorem kd_M_rankOf_17 : decode kb_M_rankOf 17 = .ok (.iconst 1, 1) := by decide +kernel
theorem kd_M_rankOf_18 : decode kb_M_rankOf 18 = .ok (.goto 9, 3) := by decide +kernel
theorem kd_M_rankOf_21 : decode kb_M_rankOf 21 = .ok (.aload_n 0, 1) := by decide +kernel
theorem kd_M_rankOf_22 : decode kb_M_rankOf 22 = .ok (.iload_n 3, 1) := by decide +kernel
theorem kd_M_rankOf_23 : decode kb_M_rankOf 23 = .ok (.iload_n 1, 1) := by decide +kernel
theorem kd_M_rankOf_24 : decode kb_M_rankOf 24 = .ok (.invokevirtual 66, 3) := by decide +kernel
theorem kd_M_rankOf_27 : decode kb_M_rankOf 27 = .ok (.istore 4, 2) := by decide +kernel
theorem kd_M_rankOf_29 : decode kb_M_rankOf 29 = .ok (.iload 4, 2) := by decide +kernel
theorem kd_M_rankOf_31 : decode kb_M_rankOf 31 = .ok (.ifCond .lt 13, 3) := by decide +kernel
theorem kd_M_rankOf_34 : decode kb_M_rankOf 34 = .ok (.iload 4, 2) := by decide +kernel
theorem kd_M_rankOf_36 : decode kb_M_rankOf 36 = .ok (.ifCond .ne 14, 3) := by decide +kernel
theorem kd_M_rankOf_39 : decode kb_M_rankOf 39 = .ok (.iload_n 3, 1) := by decide +kernel
theorem kd_M_rankOf_40 : decode kb_M_rankOf 40 = .ok (.iload_n 1, 1) := by decide +kernel
theorem kd_M_rankOf_41 : decode kb_M_rankOf 41 = .ok (.if_icmp .ge 9, 3) := by decide +kernel
theorem kd_M_rankOf_44 : decode kb_M_rankOf 44 = .ok (.iload_n 2, 1) := by decide +kernel
theorem kd_M_rankOf_45 : decode kb_M_rankOf 45 = .ok (.iconst 1, 1) := by decide +kernel
theorem kd_M_rankOf_46 : decode kb_M_rankOf 46 = .ok (.iadd, 1) := by decide +kernel
theorem kd_M_rankOf_47 : decode kb_M_rankOf 47 = .ok (.goto 4, 3) := by decide +kernel
theorem kd_M_rankOf_50 : decode kb_M_rankOf 50 = .ok (.iload_n 2, 1) := by decide +kernel
theorem kd_M_rankOf_51 : decode kb_M_rankOf 51 = .ok (.istore_n 2, 1) := by decide +kernel
theorem kd_M_rankOf_52 : decode kb_M_rankOf 52 = .ok (.iinc 3 1, 3) := by decide +kernel
theorem kd_M_rankOf_55 : decode kb_M_rankOf 55 = .ok (.goto (-51), 3) := by decide +kernel
theorem kd_M_rankOf_58 : decode kb_M_rankOf 58 = .ok (.iload_n 2, 1) := by decide +kernel
theorem kd_M_rankOf_59 : decode kb_M_rankOf 59 = .ok (.ireturn, 1) := by decide +kernel
theorem kd_M_nameAt_0 : decode kb_M_nameAt 0 = .ok (.aload_n 0, 1) := by decide +kernel
theorem kd_M_nameAt_1 : decode kb_M_nameAt 1 = .ok (.iconst 0, 1) := by decide +kernel
theorem kd_M_nameAt_2 : decode kb_M_nameAt 2 = .ok (.putfield 25, 3) := by decide +kernel
theorem kd_M_nameAt_5 : decode kb_M_nameAt 5 = .ok (.iload_n 1, 1) := by decide +kernel
theorem kd_M_nameAt_6 : decode kb_M_nameAt 6 = .ok (.ifCond .lt 11, 3) := by decide +kernel
theorem kd_M_nameAt_9 : decode kb_M_nameAt 9 = .ok (.iload_n 1, 1) := by decide +kernel
theorem kd_M_nameAt_10 : decode kb_M_nameAt 10 = .ok (.aload_n 0, 1) := by decide +kernel
theorem kd_M_nameAt_11 : decode kb_M_nameAt 11 = .ok (.getfield 111, 3) := by decide +kernel
theorem kd_M_nameAt_14 : decode kb_M_nameAt 14 = .ok (.if_icmp .lt 9, 3) := by decide +kernel
theorem kd_M_nameAt_17 : decode kb_M_nameAt 17 = .ok (.aload_n 0, 1) := by decide +kernel
theorem kd_M_nameAt_18 : decode kb_M_nameAt 18 = .ok (.iconst 1, 1) := by decide +kernel
theorem kd_M_nameAt_19 : decode kb_M_nameAt 19 = .ok (.invokevirtual 73, 3) := by decide +kernel
theorem kd_M_nameAt_22 : decode kb_M_nameAt 22 = .ok (.ireturn, 1) := by decide +kernel
theorem kd_M_nameAt_23 : decode kb_M_nameAt 23 = .ok (.iload_n 2, 1) := by decide +kernel
theorem kd_M_nameAt_24 : decode kb_M_nameAt 24 = .ok (.ifCond .lt 27, 3) := by decide +kernel
theorem kd_M_nameAt_27 : decode kb_M_nameAt 27 = .ok (.iload_n 2, 1) := by decide +kernel
theorem kd_M_nameAt_28 : decode kb_M_nameAt 28 = .ok (.aload_n 0, 1) := by decide +kernel
theorem kd_M_nameAt_29 : decode kb_M_nameAt 29 = .ok (.getfield 13, 3) := by decide +kernel
theorem kd_M_nameAt_32 : decode kb_M_nameAt 32 = .ok (.iload_n 1, 1) := by decide +kernel
theorem kd_M_nameAt_33 : decode kb_M_nameAt 33 = .ok (.iaload, 1) := by decide +kernel
theorem kd_M_nameAt_34 : decode kb_M_nameAt 34 = .ok (.if_icmp .ge 17, 3) := by decide +kernel
theorem kd_M_nameAt_37 : decode kb_M_nameAt 37 = .ok (.aload_n 0, 1) := by decide +kernel
theorem kd_M_nameAt_38 : decode kb_M_nameAt 38 = .ok (.getfield 7, 3) := by decide +kernel
theorem kd_M_nameAt_41 : decode kb_M_nameAt 41 = .ok (.bipush 48, 2) := by decide +kernel
theorem kd_M_nameAt_43 : decode kb_M_nameAt 43 = .ok (.iload_n 1, 1) := by decide +kernel
theorem kd_M_nameAt_44 : decode kb_M_nameAt 44 = .ok (.imul, 1) := by decide +kernel
theorem kd_M_nameAt_45 : decode kb_M_nameAt 45 = .ok (.iload_n 2, 1) := by decide +kernel
theorem kd_M_nameAt_46 : decode kb_M_nameAt 46 = .ok (.iadd, 1) := by decide +kernel
theorem kd_M_nameAt_47 : decode kb_M_nameAt 47 = .ok (.iaload, 1) := by decide +kernel
theorem kd_M_nameAt_48 : decode kb_M_nameAt 48 = .ok (.goto 4, 3) := by decide +kernel
theorem kd_M_nameAt_51 : decode kb_M_nameAt 51 = .ok (.iconst (-1), 1) := by decide +kernel
theorem kd_M_nameAt_52 : decode kb_M_nameAt 52 = .ok (.ireturn, 1) := by decide +kernel
theorem kd_M_alike_0 : decode kb_M_alike 0 = .ok (.aload_n 0, 1) := by decide +kernel
theorem kd_M_alike_1 : decode kb_M_alike 1 = .ok (.iconst 0, 1) := by decide +kernel
theorem kd_M_alike_2 : decode kb_M_alike 2 = .ok (.putfield 25, 3) := by decide +kernel
theorem kd_M_alike_5 : decode kb_M_alike 5 = .ok (.iload_n 1, 1) := by decide +kernel
theorem kd_M_alike_6 : decode kb_M_alike 6 = .ok (.ifCond .lt 11, 3) := by decide +kernel
theorem kd_M_alike_9 : decode kb_M_alike 9 = .ok (.iload_n 1, 1) := by decide +kernel
theorem kd_M_alike_10 : decode kb_M_alike 10 = .ok (.aload_n 0, 1) := by decide +kernel
theorem kd_M_alike_11 : decode kb_M_alike 11 = .ok (.getfield 111, 3) := by decide +kernel
theorem kd_M_alike_14 : decode kb_M_alike 14 = .ok (.if_icmp .lt 9, 3) := by decide +kernel
theorem kd_M_alike_17 : decode kb_M_alike 17 = .ok (.aload_n 0, 1) := by decide +kernel
theorem kd_M_alike_18 : decode kb_M_alike 18 = .ok (.iconst 1, 1) := by decide +kernel
theorem kd_M_alike_19 : decode kb_M_alike 19 = .ok (.invokevirtual 73, 3) := by decide +kernel
theorem kd_M_alike_22 : decode kb_M_alike 22 = .ok (.ireturn, 1) := by decide +kernel
theorem kd_M_alike_23 : decode kb_M_alike 23 = .ok (.aload_n 0, 1) := by decide +kernel
theorem kd_M_alike_24 : decode kb_M_alike 24 = .ok (.bipush 12, 2) := by decide +kernel
theorem kd_M_alike_26 : decode kb_M_alike 26 = .ok (.iload_n 1, 1) := by decide +kernel
theorem kd_M_alike_27 : decode kb_M_alike 27 = .ok (.invokevirtual 62, 3) := by decide +kernel
theorem kd_M_alike_30 : decode kb_M_alike 30 = .ok (.ifCond .eq 5, 3) := by decide +kernel
theorem kd_M_alike_33 : decode kb_M_alike 33 = .ok (.iconst 0, 1) := by decide +kernel
theorem kd_M_alike_34 : decode kb_M_alike 34 = .ok (.ireturn, 1) := by decide +kernel
theorem kd_M_alike_35 : decode kb_M_alike 35 = .ok (.aload_n 0, 1) := by decide +kernel
theorem kd_M_alike_36 : decode kb_M_alike 36 = .ok (.bipush 12, 2) := by decide +kernel
theorem kd_M_alike_38 : decode kb_M_alike 38 = .ok (.iload_n 1, 1) := by decide +kernel
theorem kd_M_alike_39 : decode kb_M_alike 39 = .ok (.invokevirtual 66, 3) := by decide +kernel
theorem kd_M_alike_42 : decode kb_M_alike 42 = .ok (.ifCond .eq 5, 3) := by decide +kernel
theorem kd_M_alike_45 : decode kb_M_alike 45 = .ok (.iconst (-1), 1) := by decide +kernel
theorem kd_M_alike_46 : decode kb_M_alike 46 = .ok (.ireturn, 1) := by decide +kernel
theorem kd_M_alike_47 : decode kb_M_alike 47 = .ok (.aload_n 0, 1) := by decide +kernel
theorem kd_M_alike_48 : decode kb_M_alike 48 = .ok (.bipush 12, 2) := by decide +kernel
theorem kd_M_alike_50 : decode kb_M_alike 50 = .ok (.invokevirtual 80, 3) := by decide +kernel
theorem kd_M_alike_53 : decode kb_M_alike 53 = .ok (.istore_n 2, 1) := by decide +kernel
theorem kd_M_alike_54 : decode kb_M_alike 54 = .ok (.aload_n 0, 1) := by decide +kernel
theorem kd_M_alike_55 : decode kb_M_alike 55 = .ok (.iload_n 1, 1) := by decide +kernel
theorem kd_M_alike_56 : decode kb_M_alike 56 = .ok (.invokevirtual 80, 3) := by decide +kernel
theorem kd_M_alike_59 : decode kb_M_alike 59 = .ok (.istore_n 3, 1) := by decide +kernel
theorem kd_M_alike_60 : decode kb_M_alike 60 = .ok (.iload_n 2, 1) := by decide +kernel
theorem kd_M_alike_61 : decode kb_M_alike 61 = .ok (.iload_n 3, 1) := by decide +kernel
theorem kd_M_alike_62 : decode kb_M_alike 62 = .ok (.iand, 1) := by decide +kernel
theorem kd_M_alike_63 : decode kb_M_alike 63 = .ok (.ifCond .eq 7, 3) := by decide +kernel
theorem kd_M_alike_66 : decode kb_M_alike 66 = .ok (.iconst 1, 1) := by decide +kernel
theorem kd_M_alike_67 : decode kb_M_alike 67 = .ok (.goto 16, 3) := by decide +kernel
theorem kd_M_alike_70 : decode kb_M_alike 70 = .ok (.iload_n 2, 1) := by decide +kernel
theorem kd_M_alike_71 : decode kb_M_alike 71 = .ok (.ifCond .eq 7, 3) := by decide +kernel
theorem kd_M_alike_74 : decode kb_M_alike 74 = .ok (.iload_n 3, 1) := by decide +kernel
theorem kd_M_alike_75 : decode kb_M_alike 75 = .ok (.ifCond .ne 7, 3) := by decide +kernel
theorem kd_M_alike_78 : decode kb_M_alike 78 = .ok (.iconst 2, 1) := by decide +kernel
theorem kd_M_alike_79 : decode kb_M_alike 79 = .ok (.goto 4, 3) := by decide +kernel
theorem kd_M_alike_82 : decode kb_M_alike 82 = .ok (.iconst 3, 1) := by decide +kernel
theorem kd_M_alike_83 : decode kb_M_alike 83 = .ok (.ireturn, 1) := by decide +kernel
theorem kd_M_lookalike_0 : decode kb_M_lookalike 0 = .ok (.aload_n 0, 1) := by decide +kernel
theorem kd_M_lookalike_1 : decode kb_M_lookalike 1 = .ok (.iconst 0, 1) := by decide +kernel
theorem kd_M_lookalike_2 : decode kb_M_lookalike 2 = .ok (.putfield 25, 3) := by decide +kernel
theorem kd_M_lookalike_5 : decode kb_M_lookalike 5 = .ok (.aload_n 0, 1) := by decide +kernel
theorem kd_M_lookalike_6 : decode kb_M_lookalike 6 = .ok (.bipush 12, 2) := by decide +kernel
theorem kd_M_lookalike_8 : decode kb_M_lookalike 8 = .ok (.iload_n 1, 1) := by decide +kernel
theorem kd_M_lookalike_9 : decode kb_M_lookalike 9 = .ok (.invokevirtual 121, 3) := by decide +kernel
theorem kd_M_lookalike_12 : decode kb_M_lookalike 12 = .ok (.ireturn, 1) := by decide +kernel
theorem kh_M_init : ky_M_init.cls ≠ "java/lang/invoke/MethodHandle" ∧ ky_M_init.cls ≠ "java/lang/invoke/VarHandle" ∧ (parseMethodDescriptor ky_M_init.desc).map (fun d => d.parameters.length) = some 0 := by decide +kernel
theorem kh_M_thrown : ky_M_thrown.cls ≠ "java/lang/invoke/MethodHandle" ∧ ky_M_thrown.cls ≠ "java/lang/invoke/VarHandle" ∧ (parseMethodDescriptor ky_M_thrown.desc).map (fun d => d.parameters.length) = some 0 := by decide +kernel
theorem kh_M_type : ky_M_type.cls ≠ "java/lang/invoke/MethodHandle" ∧ ky_M_type.cls ≠ "java/lang/invoke/VarHandle" ∧ (parseMethodDescriptor ky_M_type.desc).map (fun d => d.parameters.length) = some 2 := by decide +kernel
theorem kh_M_refuse : ky_M_refuse.cls ≠ "java/lang/invoke/MethodHandle" ∧ ky_M_refuse.cls ≠ "java/lang/invoke/VarHandle" ∧ (parseMethodDescriptor ky_M_refuse.desc).map (fun d => d.parameters.length) = some 1 := by decide +kernel
theorem kh_M_wipe : ky_M_wipe.cls ≠ "java/lang/invoke/MethodHandle" ∧ ky_M_wipe.cls ≠ "java/lang/invoke/VarHandle" ∧ (parseMethodDescriptor ky_M_wipe.desc).map (fun d => d.parameters.length) = some 0 := by decide +kernel
theorem kh_M_skeleton : ky_M_skeleton.cls ≠ "java/lang/invoke/MethodHandle" ∧ ky_M_skeleton.cls ≠ "java/lang/invoke/VarHandle" ∧ (parseMethodDescriptor ky_M_skeleton.desc).map (fun d => d.parameters.length) = some 0 := by decide +kernel
theorem kh_M_makeSkeleton : ky_M_makeSkeleton.cls ≠ "java/lang/invoke/MethodHandle" ∧ ky_M_makeSkeleton.cls ≠ "java/lang/invoke/VarHandle" ∧ (parseMethodDescriptor ky_M_makeSkeleton.desc).map (fun d => d.parameters.length) = some 2 := by decide +kernel
theorem kh_M_takeApart : ky_M_takeApart.cls ≠ "java/lang/invoke/MethodHandle" ∧ ky_M_takeApart.cls ≠ "java/lang/invoke/VarHandle" ∧ (parseMethodDescriptor ky_M_takeApart.desc).map (fun d => d.parameters.length) = some 3 := by decide +kernel
theorem kh_M_add : ky_M_add.cls ≠ "java/lang/invoke/MethodHandle" ∧ ky_M_add.cls ≠ "java/lang/invoke/VarHandle" ∧ (parseMethodDescriptor ky_M_add.desc).map (fun d => d.parameters.length) = some 2 := by decide +kernel
theorem kh_M_settle : ky_M_settle.cls ≠ "java/lang/invoke/MethodHandle" ∧ ky_M_settle.cls ≠ "java/lang/invoke/VarHandle" ∧ (parseMethodDescriptor ky_M_settle.desc).map (fun d => d.parameters.length) = some 1 := by decide +kernel
theorem kh_M_isMark : ky_M_isMark.cls ≠ "java/lang/invoke/MethodHandle" ∧ ky_M_isMark.cls ≠ "java/lang/invoke/VarHandle" ∧ (parseMethodDescriptor ky_M_isMark.desc).map (fun d => d.parameters.length) = some 1 := by decide +kernel
theorem kh_M_in : ky_M_in.cls ≠ "java/lang/invoke/MethodHandle" ∧ ky_M_in.cls ≠ "java/lang/invoke/VarHandle" ∧ (parseMethodDescriptor ky_M_in.desc).map (fun d => d.parameters.length) = some 3 := by decide +kernel
theorem kh_M_classOf : ky_M_classOf.cls ≠ "java/lang/invoke/MethodHandle" ∧ ky_M_classOf.cls ≠ "java/lang/invoke/VarHandle" ∧ (parseMethodDescriptor ky_M_classOf.desc).map (fun d => d.parameters.length) = some 1 := by decide +kernel
theorem kh_M_prototype : ky_M_prototype.cls ≠ "java/lang/invoke/MethodHandle" ∧ ky_M_prototype.cls ≠ "java/lang/invoke/VarHandle" ∧ (parseMethodDescriptor ky_M_prototype.desc).map (fun d => d.parameters.length) = some 1 := by decide +kernel
theorem kh_M_skeletonAt : ky_M_skeletonAt.cls ≠ "java/lang/invoke/MethodHandle" ∧ ky_M_skeletonAt.cls ≠ "java/lang/invoke/VarHandle" ∧ (parseMethodDescriptor ky_M_skeletonAt.desc).map (fun d => d.parameters.length) = some 1 := by decide +kernel
theorem kh_M_scripts : ky_M_scripts.cls ≠ "java/lang/invoke/MethodHandle" ∧ ky_M_scripts.cls ≠ "java/lang/invoke/VarHandle" ∧ (parseMethodDescriptor ky_M_scripts.desc).map (fun d => d.parameters.length) = some 0 := by decide +kernel
theorem kh_M_setOfText : ky_M_setOfText.cls ≠ "java/lang/invoke/MethodHandle" ∧ ky_M_setOfText.cls ≠ "java/lang/invoke/VarHandle" ∧ (parseMethodDescriptor ky_M_setOfText.desc).map (fun d => d.parameters.length) = some 1 := by decide +kernel
theorem kh_M_setOf : ky_M_setOf.cls ≠ "java/lang/invoke/MethodHandle" ∧ ky_M_setOf.cls ≠ "java/lang/invoke/VarHandle" ∧ (parseMethodDescriptor ky_M_setOf.desc).map (fun d => d.parameters.length) = some 1 := by decide +kernel
theorem kh_M_level : ky_M_level.cls ≠ "java/lang/invoke/MethodHandle" ∧ ky_M_level.cls ≠ "java/lang/invoke/VarHandle" ∧ (parseMethodDescriptor ky_M_level.desc).map (fun d => d.parameters.length) = some 0 := by decide +kernel
theorem kh_M_many : ky_M_many.cls ≠ "java/lang/invoke/MethodHandle" ∧ ky_M_many.cls ≠ "java/lang/invoke/VarHandle" ∧ (parseMethodDescriptor ky_M_many.desc).map (fun d => d.parameters.length) = some 2 := by decide +kernel
theorem kh_M_isCovered : ky_M_isCovered.cls ≠ "java/lang/invoke/MethodHandle" ∧ ky_M_isCovered.cls ≠ "java/lang/invoke/VarHandle" ∧ (parseMethodDescriptor ky_M_isCovered.desc).map (fun d => d.parameters.length) = some 1 := by decide +kernel
theorem kh_M_odd : ky_M_odd.cls ≠ "java/lang/invoke/MethodHandle" ∧ ky_M_odd.cls ≠ "java/lang/invoke/VarHandle" ∧ (parseMethodDescriptor ky_M_odd.desc).map (fun d => d.parameters.length) = some 0 := by decide +kernel
theorem kh_M_isLetter : ky_M_isLetter.cls ≠ "java/lang/invoke/MethodHandle" ∧ ky_M_isLetter.cls ≠ "java/lang/invoke/VarHandle" ∧ (parseMethodDescriptor ky_M_isLetter.desc).map (fun d => d.parameters.length) = some 1 := by decide +kernel
theorem kh_M_words : ky_M_words.cls ≠ "java/lang/invoke/MethodHandle" ∧ ky_M_words.cls ≠ "java/lang/invoke/VarHandle" ∧ (parseMethodDescriptor ky_M_words.desc).map (fun d => d.parameters.length) = some 0 := by decide +kernel
theorem kh_M_find : ky_M_find.cls ≠ "java/lang/invoke/MethodHandle" ∧ ky_M_find.cls ≠ "java/lang/invoke/VarHandle" ∧ (parseMethodDescriptor ky_M_find.desc).map (fun d => d.parameters.length) = some 1 := by decide +kernel
theorem kh_M_identifier : ky_M_identifier.cls ≠ "java/lang/invoke/MethodHandle" ∧ ky_M_identifier.cls ≠ "java/lang/invoke/VarHandle" ∧ (parseMethodDescriptor ky_M_identifier.desc).map (fun d => d.parameters.length) = some 1 := by decide +kernel
theorem kh_M_isPiece : ky_M_isPiece.cls ≠ "java/lang/invoke/MethodHandle" ∧ ky_M_isPiece.cls ≠ "java/lang/invoke/VarHandle" ∧ (parseMethodDescriptor ky_M_isPiece.desc).map (fun d => d.parameters.length) = some 1 := by decide +kernel
theorem kh_M_word : ky_M_word.cls ≠ "java/lang/invoke/MethodHandle" ∧ ky_M_word.cls ≠ "java/lang/invoke/VarHandle" ∧ (parseMethodDescriptor ky_M_word.desc).map (fun d => d.parameters.length) = some 2 := by decide +kernel
theorem kh_M_wordLike : ky_M_wordLike.cls ≠ "java/lang/invoke/MethodHandle" ∧ ky_M_wordLike.cls ≠ "java/lang/invoke/VarHandle" ∧ (parseMethodDescriptor ky_M_wordLike.desc).map (fun d => d.parameters.length) = some 3 := by decide +kernel
theorem kh_M_copy : ky_M_copy.cls ≠ "java/lang/invoke/MethodHandle" ∧ ky_M_copy.cls ≠ "java/lang/invoke/VarHandle" ∧ (parseMethodDescriptor ky_M_copy.desc).map (fun d => d.parameters.length) = some 3 := by decide +kernel
theorem kh_M_likePiece : ky_M_likePiece.cls ≠ "java/lang/invoke/MethodHandle" ∧ ky_M_likePiece.cls ≠ "java/lang/invoke/VarHandle" ∧ (parseMethodDescriptor ky_M_likePiece.desc).map (fun d => d.parameters.length) = some 2 := by decide +kernel
theorem kh_M_nameLike : ky_M_nameLike.cls ≠ "java/lang/invoke/MethodHandle" ∧ ky_M_nameLike.cls ≠ "java/lang/invoke/VarHandle" ∧ (parseMethodDescriptor ky_M_nameLike.desc).map (fun d => d.parameters.length) = some 2 := by decide +kernel
theorem kh_M_looksLike : ky_M_looksLike.cls ≠ "java/lang/invoke/MethodHandle" ∧ ky_M_looksLike.cls ≠ "java/lang/invoke/VarHandle" ∧ (parseMethodDescriptor ky_M_looksLike.desc).map (fun d => d.parameters.length) = some 2 := by decide +kernel
theorem kh_M_isSame : ky_M_isSame.cls ≠ "java/lang/invoke/MethodHandle" ∧ ky_M_isSame.cls ≠ "java/lang/invoke/VarHandle" ∧ (parseMethodDescriptor ky_M_isSame.desc).map (fun d => d.parameters.length) = some 2 := by decide +kernel
theorem kh_M_compared : ky_M_compared.cls ≠ "java/lang/invoke/MethodHandle" ∧ ky_M_compared.cls ≠ "java/lang/invoke/VarHandle" ∧ (parseMethodDescriptor ky_M_compared.desc).map (fun d => d.parameters.length) = some 2 := by decide +kernel
theorem kh_M_register : ky_M_register.cls ≠ "java/lang/invoke/MethodHandle" ∧ ky_M_register.cls ≠ "java/lang/invoke/VarHandle" ∧ (parseMethodDescriptor ky_M_register.desc).map (fun d => d.parameters.length) = some 0 := by decide +kernel
theorem kh_M_withdraw : ky_M_withdraw.cls ≠ "java/lang/invoke/MethodHandle" ∧ ky_M_withdraw.cls ≠ "java/lang/invoke/VarHandle" ∧ (parseMethodDescriptor ky_M_withdraw.desc).map (fun d => d.parameters.length) = some 1 := by decide +kernel
theorem kh_M_ranked : ky_M_ranked.cls ≠ "java/lang/invoke/MethodHandle" ∧ ky_M_ranked.cls ≠ "java/lang/invoke/VarHandle" ∧ (parseMethodDescriptor ky_M_ranked.desc).map (fun d => d.parameters.length) = some 1 := by decide +kernel
theorem kh_M_rankOf : ky_M_rankOf.cls ≠ "java/lang/invoke/MethodHandle" ∧ ky_M_rankOf.cls ≠ "java/lang/invoke/VarHandle" ∧ (parseMethodDescriptor ky_M_rankOf.desc).map (fun d => d.parameters.length) = some 1 := by decide +kernel
theorem kh_M_nameAt : ky_M_nameAt.cls ≠ "java/lang/invoke/MethodHandle" ∧ ky_M_nameAt.cls ≠ "java/lang/invoke/VarHandle" ∧ (parseMethodDescriptor ky_M_nameAt.desc).map (fun d => d.parameters.length) = some 2 := by decide +kernel
theorem kh_M_alike : ky_M_alike.cls ≠ "java/lang/invoke/MethodHandle" ∧ ky_M_alike.cls ≠ "java/lang/invoke/VarHandle" ∧ (parseMethodDescriptor ky_M_alike.desc).map (fun d => d.parameters.length) = some 1 := by decide +kernel
theorem kh_M_lookalike : ky_M_lookalike.cls ≠ "java/lang/invoke/MethodHandle" ∧ ky_M_lookalike.cls ≠ "java/lang/invoke/VarHandle" ∧ (parseMethodDescriptor ky_M_lookalike.desc).map (fun d => d.parameters.length) = some 1 := by decide +kernel
