theorem kd_W_init_0 : decode kb_W_init 0 = .ok (.aload_n 0, 1) := by decide +kernel
theorem kd_W_init_1 : decode kb_W_init 1 = .ok (.invokespecial 3, 3) := by decide +kernel
theorem kd_W_init_4 : decode kb_W_init 4 = .ok (.aload_n 0, 1) := by decide +kernel
theorem kd_W_init_5 : decode kb_W_init 5 = .ok (.new 9, 3) := by decide +kernel
theorem kd_W_init_8 : decode kb_W_init 8 = .ok (.dup, 1) := by decide +kernel
theorem kd_W_init_9 : decode kb_W_init 9 = .ok (.bipush 48, 2) := by decide +kernel
theorem kd_W_init_11 : decode kb_W_init 11 = .ok (.invokespecial 11, 3) := by decide +kernel
theorem kd_W_init_14 : decode kb_W_init 14 = .ok (.putfield 14, 3) := by decide +kernel
theorem kd_W_init_17 : decode kb_W_init 17 = .ok (.aload_n 0, 1) := by decide +kernel
theorem kd_W_init_18 : decode kb_W_init 18 = .ok (.new 9, 3) := by decide +kernel
theorem kd_W_init_21 : decode kb_W_init 21 = .ok (.dup, 1) := by decide +kernel
theorem kd_W_init_22 : decode kb_W_init 22 = .ok (.sipush 144, 3) := by decide +kernel
theorem kd_W_init_25 : decode kb_W_init 25 = .ok (.invokespecial 11, 3) := by decide +kernel
theorem kd_W_init_28 : decode kb_W_init 28 = .ok (.putfield 20, 3) := by decide +kernel
theorem kd_W_init_31 : decode kb_W_init 31 = .ok (.return_, 1) := by decide +kernel
theorem kd_W_length_0 : decode kb_W_length 0 = .ok (.aload_n 0, 1) := by decide +kernel
theorem kd_W_length_1 : decode kb_W_length 1 = .ok (.getfield 14, 3) := by decide +kernel
theorem kd_W_length_4 : decode kb_W_length 4 = .ok (.invokevirtual 23, 3) := by decide +kernel
theorem kd_W_length_7 : decode kb_W_length 7 = .ok (.ireturn, 1) := by decide +kernel
theorem kd_W_clear_0 : decode kb_W_clear 0 = .ok (.aload_n 0, 1) := by decide +kernel
theorem kd_W_clear_1 : decode kb_W_clear 1 = .ok (.getfield 14, 3) := by decide +kernel
theorem kd_W_clear_4 : decode kb_W_clear 4 = .ok (.invokevirtual 27, 3) := by decide +kernel
theorem kd_W_clear_7 : decode kb_W_clear 7 = .ok (.aload_n 0, 1) := by decide +kernel
theorem kd_W_clear_8 : decode kb_W_clear 8 = .ok (.getfield 20, 3) := by decide +kernel
theorem kd_W_clear_11 : decode kb_W_clear 11 = .ok (.invokevirtual 27, 3) := by decide +kernel
theorem kd_W_clear_14 : decode kb_W_clear 14 = .ok (.return_, 1) := by decide +kernel
theorem kd_W_bones_0 : decode kb_W_bones 0 = .ok (.aload_n 0, 1) := by decide +kernel
theorem kd_W_bones_1 : decode kb_W_bones 1 = .ok (.getfield 20, 3) := by decide +kernel
theorem kd_W_bones_4 : decode kb_W_bones 4 = .ok (.areturn, 1) := by decide +kernel
theorem kd_W_characters_0 : decode kb_W_characters 0 = .ok (.aload_n 0, 1) := by decide +kernel
theorem kd_W_characters_1 : decode kb_W_characters 1 = .ok (.getfield 14, 3) := by decide +kernel
theorem kd_W_characters_4 : decode kb_W_characters 4 = .ok (.areturn, 1) := by decide +kernel
theorem kd_W_looksLike_0 : decode kb_W_looksLike 0 = .ok (.aload_n 0, 1) := by decide +kernel
theorem kd_W_looksLike_1 : decode kb_W_looksLike 1 = .ok (.aload_n 1, 1) := by decide +kernel
theorem kd_W_looksLike_2 : decode kb_W_looksLike 2 = .ok (.invokevirtual 60, 3) := by decide +kernel
theorem kd_W_looksLike_5 : decode kb_W_looksLike 5 = .ok (.ifCond .ne 21, 3) := by decide +kernel
theorem kd_W_looksLike_8 : decode kb_W_looksLike 8 = .ok (.aload_n 0, 1) := by decide +kernel
theorem kd_W_looksLike_9 : decode kb_W_looksLike 9 = .ok (.getfield 20, 3) := by decide +kernel
theorem kd_W_looksLike_12 : decode kb_W_looksLike 12 = .ok (.aload_n 1, 1) := by decide +kernel
theorem kd_W_looksLike_13 : decode kb_W_looksLike 13 = .ok (.getfield 20, 3) := by decide +kernel
theorem kd_W_looksLike_16 : decode kb_W_looksLike 16 = .ok (.invokevirtual 56, 3) := by decide +kernel
theorem kd_W_looksLike_19 : decode kb_W_looksLike 19 = .ok (.ifCond .ne 7, 3) := by decide +kernel
theorem kd_W_looksLike_22 : decode kb_W_looksLike 22 = .ok (.iconst 1, 1) := by decide +kernel
theorem kd_W_looksLike_23 : decode kb_W_looksLike 23 = .ok (.goto 4, 3) := by decide +kernel
theorem kd_W_looksLike_26 : decode kb_W_looksLike 26 = .ok (.iconst 0, 1) := by decide +kernel
theorem kd_W_looksLike_27 : decode kb_W_looksLike 27 = .ok (.ireturn, 1) := by decide +kernel
theorem kd_W_isSameAs_0 : decode kb_W_isSameAs 0 = .ok (.aload_n 0, 1) := by decide +kernel
theorem kd_W_isSameAs_1 : decode kb_W_isSameAs 1 = .ok (.getfield 14, 3) := by decide +kernel
theorem kd_W_isSameAs_4 : decode kb_W_isSameAs 4 = .ok (.aload_n 1, 1) := by decide +kernel
theorem kd_W_isSameAs_5 : decode kb_W_isSameAs 5 = .ok (.getfield 14, 3) := by decide +kernel
theorem kd_W_isSameAs_8 : decode kb_W_isSameAs 8 = .ok (.invokevirtual 56, 3) := by decide +kernel
theorem kd_W_isSameAs_11 : decode kb_W_isSameAs 11 = .ok (.ifCond .ne 7, 3) := by decide +kernel
theorem kd_W_isSameAs_14 : decode kb_W_isSameAs 14 = .ok (.iconst 1, 1) := by decide +kernel
theorem kd_W_isSameAs_15 : decode kb_W_isSameAs 15 = .ok (.goto 4, 3) := by decide +kernel
theorem kd_W_isSameAs_18 : decode kb_W_isSameAs 18 = .ok (.iconst 0, 1) := by decide +kernel
theorem kd_W_isSameAs_19 : decode kb_W_isSameAs 19 = .ok (.ireturn, 1) := by decide +kernel
theorem kd_W_append_0 : decode kb_W_append 0 = .ok (.aload_n 0, 1) := by decide +kernel
theorem kd_W_append_1 : decode kb_W_append 1 = .ok (.getfield 14, 3) := by decide +kernel
theorem kd_W_append_4 : decode kb_W_append 4 = .ok (.iload_n 1, 1) := by decide +kernel
theorem kd_W_append_5 : decode kb_W_append 5 = .ok (.invokevirtual 30, 3) := by decide +kernel
theorem kd_W_append_8 : decode kb_W_append 8 = .ok (.return_, 1) := by decide +kernel
theorem kd_W_bringToSkeleton_0 : decode kb_W_bringToSkeleton 0 = .ok (.aload_n 1, 1) := by decide +kernel
theorem kd_W_bringToSkeleton_1 : decode kb_W_bringToSkeleton 1 = .ok (.invokevirtual 27, 3) := by decide +kernel
theorem kd_W_bringToSkeleton_4 : decode kb_W_bringToSkeleton 4 = .ok (.iconst 0, 1) := by decide +kernel
theorem kd_W_bringToSkeleton_5 : decode kb_W_bringToSkeleton 5 = .ok (.istore_n 2, 1) := by decide +kernel
theorem kd_W_bringToSkeleton_6 : decode kb_W_bringToSkeleton 6 = .ok (.iload_n 2, 1) := by decide +kernel
theorem kd_W_bringToSkeleton_7 : decode kb_W_bringToSkeleton 7 = .ok (.aload_n 0, 1) := by decide +kernel
theorem kd_W_bringToSkeleton_8 : decode kb_W_bringToSkeleton 8 = .ok (.getfield 14, 3) := by decide +kernel
theorem kd_W_bringToSkeleton_11 : decode kb_W_bringToSkeleton 11 = .ok (.invokevirtual 23, 3) := by decide +kernel
theorem kd_W_bringToSkeleton_14 : decode kb_W_bringToSkeleton 14 = .ok (.if_icmp .ge 35, 3) := by decide +kernel
theorem kd_W_bringToSkeleton_17 : decode kb_W_bringToSkeleton 17 = .ok (.aload_n 0, 1) := by decide +kernel
theorem kd_W_bringToSkeleton_18 : decode kb_W_bringToSkeleton 18 = .ok (.getfield 14, 3) := by decide +kernel
theorem kd_W_bringToSkeleton_21 : decode kb_W_bringToSkeleton 21 = .ok (.iload_n 2, 1) := by decide +kernel
theorem kd_W_bringToSkeleton_22 : decode kb_W_bringToSkeleton 22 = .ok (.invokevirtual 33, 3) := by decide +kernel
theorem kd_W_bringToSkeleton_25 : decode kb_W_bringToSkeleton 25 = .ok (.invokestatic 37, 3) := by decide +kernel
theorem kd_W_bringToSkeleton_28 : decode kb_W_bringToSkeleton 28 = .ok (.ifCond .ne 15, 3) := by decide +kernel
theorem kd_W_bringToSkeleton_31 : decode kb_W_bringToSkeleton 31 = .ok (.aload_n 1, 1) := by decide +kernel
theorem kd_W_bringToSkeleton_32 : decode kb_W_bringToSkeleton 32 = .ok (.aload_n 0, 1) := by decide +kernel
theorem kd_W_bringToSkeleton_33 : decode kb_W_bringToSkeleton 33 = .ok (.getfield 14, 3) := by decide +kernel
theorem kd_W_bringToSkeleton_36 : decode kb_W_bringToSkeleton 36 = .ok (.iload_n 2, 1) := by decide +kernel
theorem kd_W_bringToSkeleton_37 : decode kb_W_bringToSkeleton 37 = .ok (.invokevirtual 33, 3) := by decide +kernel
theorem kd_W_bringToSkeleton_40 : decode kb_W_bringToSkeleton 40 = .ok (.invokevirtual 43, 3) := by decide +kernel
theorem kd_W_bringToSkeleton_43 : decode kb_W_bringToSkeleton 43 = .ok (.iinc 2 1, 3) := by decide +kernel
theorem kd_W_bringToSkeleton_46 : decode kb_W_bringToSkeleton 46 = .ok (.goto (-40), 3) := by decide +kernel
theorem kd_W_bringToSkeleton_49 : decode kb_W_bringToSkeleton 49 = .ok (.aload_n 0, 1) := by decide +kernel
theorem kd_W_bringToSkeleton_50 : decode kb_W_bringToSkeleton 50 = .ok (.getfield 20, 3) := by decide +kernel
theorem kd_W_bringToSkeleton_53 : decode kb_W_bringToSkeleton 53 = .ok (.invokevirtual 27, 3) := by decide +kernel
theorem kd_W_bringToSkeleton_56 : decode kb_W_bringToSkeleton 56 = .ok (.iconst 0, 1) := by decide +kernel
theorem kd_W_bringToSkeleton_57 : decode kb_W_bringToSkeleton 57 = .ok (.istore_n 2, 1) := by decide +kernel
theorem kd_W_bringToSkeleton_58 : decode kb_W_bringToSkeleton 58 = .ok (.iload_n 2, 1) := by decide +kernel
theorem kd_W_bringToSkeleton_59 : decode kb_W_bringToSkeleton 59 = .ok (.aload_n 1, 1) := by decide +kernel
theorem kd_W_bringToSkeleton_60 : decode kb_W_bringToSkeleton 60 = .ok (.invokevirtual 23, 3) := by decide +kernel
theorem kd_W_bringToSkeleton_63 : decode kb_W_bringToSkeleton 63 = .ok (.if_icmp .ge 46, 3) := by decide +kernel
theorem kd_W_bringToSkeleton_66 : decode kb_W_bringToSkeleton 66 = .ok (.aload_n 0, 1) := by decide +kernel
theorem kd_W_bringToSkeleton_67 : decode kb_W_bringToSkeleton 67 = .ok (.getfield 20, 3) := by decide +kernel
theorem kd_W_bringToSkeleton_70 : decode kb_W_bringToSkeleton 70 = .ok (.aload_n 1, 1) := by decide +kernel
theorem kd_W_bringToSkeleton_71 : decode kb_W_bringToSkeleton 71 = .ok (.iload_n 2, 1) := by decide +kernel
theorem kd_W_bringToSkeleton_72 : decode kb_W_bringToSkeleton 72 = .ok (.invokevirtual 33, 3) := by decide +kernel
theorem kd_W_bringToSkeleton_75 : decode kb_W_bringToSkeleton 75 = .ok (.invokestatic 46, 3) := by decide +kernel
theorem kd_W_bringToSkeleton_78 : decode kb_W_bringToSkeleton 78 = .ok (.invokevirtual 43, 3) := by decide +kernel
theorem kd_W_bringToSkeleton_81 : decode kb_W_bringToSkeleton 81 = .ok (.aload_n 1, 1) := by decide +kernel
theorem kd_W_bringToSkeleton_82 : decode kb_W_bringToSkeleton 82 = .ok (.iload_n 2, 1) := by decide +kernel
theorem kd_W_bringToSkeleton_83 : decode kb_W_bringToSkeleton 83 = .ok (.invokevirtual 33, 3) := by decide +kernel
theorem kd_W_bringToSkeleton_86 : decode kb_W_bringToSkeleton 86 = .ok (.invokestatic 49, 3) := by decide +kernel
theorem kd_W_bringToSkeleton_89 : decode kb_W_bringToSkeleton 89 = .ok (.istore_n 3, 1) := by decide +kernel
theorem kd_W_bringToSkeleton_90 : decode kb_W_bringToSkeleton 90 = .ok (.iload_n 3, 1) := by decide +kernel
theorem kd_W_bringToSkeleton_91 : decode kb_W_bringToSkeleton 91 = .ok (.iconst (-1), 1) := by decide +kernel
theorem kd_W_bringToSkeleton_92 : decode kb_W_bringToSkeleton 92 = .ok (.if_icmp .eq 11, 3) := by decide +kernel
theorem kd_W_bringToSkeleton_95 : decode kb_W_bringToSkeleton 95 = .ok (.aload_n 0, 1) := by decide +kernel
theorem kd_W_bringToSkeleton_96 : decode kb_W_bringToSkeleton 96 = .ok (.getfield 20, 3) := by decide +kernel
theorem kd_W_bringToSkeleton_99 : decode kb_W_bringToSkeleton 99 = .ok (.iload_n 3, 1) := by decide +kernel
theorem kd_W_bringToSkeleton_100 : decode kb_W_bringToSkeleton 100 = .ok (.invokevirtual 43, 3) := by decide +kernel
theorem kd_W_bringToSkeleton_103 : decode kb_W_bringToSkeleton 103 = .ok (.iinc 2 1, 3) := by decide +kernel
theorem kd_W_bringToSkeleton_106 : decode kb_W_bringToSkeleton 106 = .ok (.goto (-48), 3) := by decide +kernel
theorem kd_W_bringToSkeleton_109 : decode kb_W_bringToSkeleton 109 = .ok (.return_, 1) := by decide +kernel
theorem kd_W_copy_0 : decode kb_W_copy 0 = .ok (.aload_n 0, 1) := by decide +kernel
theorem kd_W_copy_1 : decode kb_W_copy 1 = .ok (.getfield 14, 3) := by decide +kernel
theorem kd_W_copy_4 : decode kb_W_copy 4 = .ok (.aload_n 1, 1) := by decide +kernel
theorem kd_W_copy_5 : decode kb_W_copy 5 = .ok (.getfield 14, 3) := by decide +kernel
theorem kd_W_copy_8 : decode kb_W_copy 8 = .ok (.invokevirtual 52, 3) := by decide +kernel
theorem kd_W_copy_11 : decode kb_W_copy 11 = .ok (.aload_n 0, 1) := by decide +kernel
theorem kd_W_copy_12 : decode kb_W_copy 12 = .ok (.getfield 20, 3) := by decide +kernel
theorem kd_W_copy_15 : decode kb_W_copy 15 = .ok (.aload_n 1, 1) := by decide +kernel
theorem kd_W_copy_16 : decode kb_W_copy 16 = .ok (.getfield 20, 3) := by decide +kernel
theorem kd_W_copy_19 : decode kb_W_copy 19 = .ok (.invokevirtual 52, 3) := by decide +kernel
theorem kd_W_copy_22 : decode kb_W_copy 22 = .ok (.return_, 1) := by decide +kernel
theorem kh_W_init : ky_W_init.cls ≠ "java/lang/invoke/MethodHandle" ∧ ky_W_init.cls ≠ "java/lang/invoke/VarHandle" ∧ (parseMethodDescriptor ky_W_init.desc).map (fun d => d.parameters.length) = some 0 := by decide +kernel
theorem kh_W_length : ky_W_length.cls ≠ "java/lang/invoke/MethodHandle" ∧ ky_W_length.cls ≠ "java/lang/invoke/VarHandle" ∧ (parseMethodDescriptor ky_W_length.desc).map (fun d => d.parameters.length) = some 0 := by decide +kernel
theorem kh_W_clear : ky_W_clear.cls ≠ "java/lang/invoke/MethodHandle" ∧ ky_W_clear.cls ≠ "java/lang/invoke/VarHandle" ∧ (parseMethodDescriptor ky_W_clear.desc).map (fun d => d.parameters.length) = some 0 := by decide +kernel
theorem kh_W_bones : ky_W_bones.cls ≠ "java/lang/invoke/MethodHandle" ∧ ky_W_bones.cls ≠ "java/lang/invoke/VarHandle" ∧ (parseMethodDescriptor ky_W_bones.desc).map (fun d => d.parameters.length) = some 0 := by decide +kernel
theorem kh_W_characters : ky_W_characters.cls ≠ "java/lang/invoke/MethodHandle" ∧ ky_W_characters.cls ≠ "java/lang/invoke/VarHandle" ∧ (parseMethodDescriptor ky_W_characters.desc).map (fun d => d.parameters.length) = some 0 := by decide +kernel
theorem kh_W_looksLike : ky_W_looksLike.cls ≠ "java/lang/invoke/MethodHandle" ∧ ky_W_looksLike.cls ≠ "java/lang/invoke/VarHandle" ∧ (parseMethodDescriptor ky_W_looksLike.desc).map (fun d => d.parameters.length) = some 1 := by decide +kernel
theorem kh_W_isSameAs : ky_W_isSameAs.cls ≠ "java/lang/invoke/MethodHandle" ∧ ky_W_isSameAs.cls ≠ "java/lang/invoke/VarHandle" ∧ (parseMethodDescriptor ky_W_isSameAs.desc).map (fun d => d.parameters.length) = some 1 := by decide +kernel
theorem kh_W_append : ky_W_append.cls ≠ "java/lang/invoke/MethodHandle" ∧ ky_W_append.cls ≠ "java/lang/invoke/VarHandle" ∧ (parseMethodDescriptor ky_W_append.desc).map (fun d => d.parameters.length) = some 1 := by decide +kernel
theorem kh_W_bringToSkeleton : ky_W_bringToSkeleton.cls ≠ "java/lang/invoke/MethodHandle" ∧ ky_W_bringToSkeleton.cls ≠ "java/lang/invoke/VarHandle" ∧ (parseMethodDescriptor ky_W_bringToSkeleton.desc).map (fun d => d.parameters.length) = some 1 := by decide +kernel
theorem kh_W_copy : ky_W_copy.cls ≠ "java/lang/invoke/MethodHandle" ∧ ky_W_copy.cls ≠ "java/lang/invoke/VarHandle" ∧ (parseMethodDescriptor ky_W_copy.desc).map (fun d => d.parameters.length) = some 1 := by decide +kernel
