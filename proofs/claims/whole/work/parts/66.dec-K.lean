theorem kd_K_type_0 : decode kb_K_type 0 = .ok (.aload 4, 2) := by decide +kernel
theorem kd_K_type_2 : decode kb_K_type 2 = .ok (.iconst 0, 1) := by decide +kernel
theorem kd_K_type_3 : decode kb_K_type 3 = .ok (.aload_n 0, 1) := by decide +kernel
theorem kd_K_type_4 : decode kb_K_type 4 = .ok (.lload_n 1, 1) := by decide +kernel
theorem kd_K_type_5 : decode kb_K_type 5 = .ok (.iload_n 3, 1) := by decide +kernel
theorem kd_K_type_6 : decode kb_K_type 6 = .ok (.invokevirtual 7, 3) := by decide +kernel
theorem kd_K_type_9 : decode kb_K_type 9 = .ok (.i2l, 1) := by decide +kernel
theorem kd_K_type_10 : decode kb_K_type 10 = .ok (.lastore, 1) := by decide +kernel
theorem kd_K_type_11 : decode kb_K_type 11 = .ok (.goto 11, 3) := by decide +kernel
theorem kd_K_type_14 : decode kb_K_type 14 = .ok (.astore 5, 2) := by decide +kernel
theorem kd_K_type_16 : decode kb_K_type 16 = .ok (.iconst 1, 1) := by decide +kernel
theorem kd_K_type_17 : decode kb_K_type 17 = .ok (.ireturn, 1) := by decide +kernel
theorem kd_K_type_18 : decode kb_K_type 18 = .ok (.astore 5, 2) := by decide +kernel
theorem kd_K_type_20 : decode kb_K_type 20 = .ok (.iconst 2, 1) := by decide +kernel
theorem kd_K_type_21 : decode kb_K_type 21 = .ok (.ireturn, 1) := by decide +kernel
theorem kd_K_type_22 : decode kb_K_type 22 = .ok (.iconst 0, 1) := by decide +kernel
theorem kd_K_type_23 : decode kb_K_type 23 = .ok (.ireturn, 1) := by decide +kernel
theorem kd_K_word_0 : decode kb_K_word 0 = .ok (.aload_n 3, 1) := by decide +kernel
theorem kd_K_word_1 : decode kb_K_word 1 = .ok (.iconst 0, 1) := by decide +kernel
theorem kd_K_word_2 : decode kb_K_word 2 = .ok (.aload_n 0, 1) := by decide +kernel
theorem kd_K_word_3 : decode kb_K_word 3 = .ok (.iload_n 1, 1) := by decide +kernel
theorem kd_K_word_4 : decode kb_K_word 4 = .ok (.iload_n 2, 1) := by decide +kernel
theorem kd_K_word_5 : decode kb_K_word 5 = .ok (.invokevirtual 17, 3) := by decide +kernel
theorem kd_K_word_8 : decode kb_K_word 8 = .ok (.i2l, 1) := by decide +kernel
theorem kd_K_word_9 : decode kb_K_word 9 = .ok (.lastore, 1) := by decide +kernel
theorem kd_K_word_10 : decode kb_K_word 10 = .ok (.goto 7, 3) := by decide +kernel
theorem kd_K_word_13 : decode kb_K_word 13 = .ok (.astore 4, 2) := by decide +kernel
theorem kd_K_word_15 : decode kb_K_word 15 = .ok (.iconst 1, 1) := by decide +kernel
theorem kd_K_word_16 : decode kb_K_word 16 = .ok (.ireturn, 1) := by decide +kernel
theorem kd_K_word_17 : decode kb_K_word 17 = .ok (.iconst 0, 1) := by decide +kernel
theorem kd_K_word_18 : decode kb_K_word 18 = .ok (.ireturn, 1) := by decide +kernel
theorem kd_K_register_0 : decode kb_K_register 0 = .ok (.aload_n 1, 1) := by decide +kernel
theorem kd_K_register_1 : decode kb_K_register 1 = .ok (.iconst 0, 1) := by decide +kernel
theorem kd_K_register_2 : decode kb_K_register 2 = .ok (.aload_n 0, 1) := by decide +kernel
theorem kd_K_register_3 : decode kb_K_register 3 = .ok (.invokevirtual 21, 3) := by decide +kernel
theorem kd_K_register_6 : decode kb_K_register 6 = .ok (.i2l, 1) := by decide +kernel
theorem kd_K_register_7 : decode kb_K_register 7 = .ok (.lastore, 1) := by decide +kernel
theorem kd_K_register_8 : decode kb_K_register 8 = .ok (.goto 9, 3) := by decide +kernel
theorem kd_K_register_11 : decode kb_K_register 11 = .ok (.astore_n 2, 1) := by decide +kernel
theorem kd_K_register_12 : decode kb_K_register 12 = .ok (.iconst 1, 1) := by decide +kernel
theorem kd_K_register_13 : decode kb_K_register 13 = .ok (.ireturn, 1) := by decide +kernel
theorem kd_K_register_14 : decode kb_K_register 14 = .ok (.astore_n 2, 1) := by decide +kernel
theorem kd_K_register_15 : decode kb_K_register 15 = .ok (.iconst 2, 1) := by decide +kernel
theorem kd_K_register_16 : decode kb_K_register 16 = .ok (.ireturn, 1) := by decide +kernel
theorem kd_K_register_17 : decode kb_K_register 17 = .ok (.iconst 0, 1) := by decide +kernel
theorem kd_K_register_18 : decode kb_K_register 18 = .ok (.ireturn, 1) := by decide +kernel
theorem kd_K_withdraw_0 : decode kb_K_withdraw 0 = .ok (.aload_n 2, 1) := by decide +kernel
theorem kd_K_withdraw_1 : decode kb_K_withdraw 1 = .ok (.iconst 0, 1) := by decide +kernel
theorem kd_K_withdraw_2 : decode kb_K_withdraw 2 = .ok (.aload_n 0, 1) := by decide +kernel
theorem kd_K_withdraw_3 : decode kb_K_withdraw 3 = .ok (.iload_n 1, 1) := by decide +kernel
theorem kd_K_withdraw_4 : decode kb_K_withdraw 4 = .ok (.invokevirtual 25, 3) := by decide +kernel
theorem kd_K_withdraw_7 : decode kb_K_withdraw 7 = .ok (.i2l, 1) := by decide +kernel
theorem kd_K_withdraw_8 : decode kb_K_withdraw 8 = .ok (.lastore, 1) := by decide +kernel
theorem kd_K_withdraw_9 : decode kb_K_withdraw 9 = .ok (.goto 6, 3) := by decide +kernel
theorem kd_K_withdraw_12 : decode kb_K_withdraw 12 = .ok (.astore_n 3, 1) := by decide +kernel
theorem kd_K_withdraw_13 : decode kb_K_withdraw 13 = .ok (.iconst 1, 1) := by decide +kernel
theorem kd_K_withdraw_14 : decode kb_K_withdraw 14 = .ok (.ireturn, 1) := by decide +kernel
theorem kd_K_withdraw_15 : decode kb_K_withdraw 15 = .ok (.iconst 0, 1) := by decide +kernel
theorem kd_K_withdraw_16 : decode kb_K_withdraw 16 = .ok (.ireturn, 1) := by decide +kernel
theorem kd_K_ranked_0 : decode kb_K_ranked 0 = .ok (.aload_n 2, 1) := by decide +kernel
theorem kd_K_ranked_1 : decode kb_K_ranked 1 = .ok (.iconst 0, 1) := by decide +kernel
theorem kd_K_ranked_2 : decode kb_K_ranked 2 = .ok (.aload_n 0, 1) := by decide +kernel
theorem kd_K_ranked_3 : decode kb_K_ranked 3 = .ok (.iload_n 1, 1) := by decide +kernel
theorem kd_K_ranked_4 : decode kb_K_ranked 4 = .ok (.invokevirtual 31, 3) := by decide +kernel
theorem kd_K_ranked_7 : decode kb_K_ranked 7 = .ok (.i2l, 1) := by decide +kernel
theorem kd_K_ranked_8 : decode kb_K_ranked 8 = .ok (.lastore, 1) := by decide +kernel
theorem kd_K_ranked_9 : decode kb_K_ranked 9 = .ok (.goto 6, 3) := by decide +kernel
theorem kd_K_ranked_12 : decode kb_K_ranked 12 = .ok (.astore_n 3, 1) := by decide +kernel
theorem kd_K_ranked_13 : decode kb_K_ranked 13 = .ok (.iconst 1, 1) := by decide +kernel
theorem kd_K_ranked_14 : decode kb_K_ranked 14 = .ok (.ireturn, 1) := by decide +kernel
theorem kd_K_ranked_15 : decode kb_K_ranked 15 = .ok (.iconst 0, 1) := by decide +kernel
theorem kd_K_ranked_16 : decode kb_K_ranked 16 = .ok (.ireturn, 1) := by decide +kernel
theorem kd_K_nameAt_0 : decode kb_K_nameAt 0 = .ok (.aload_n 3, 1) := by decide +kernel
theorem kd_K_nameAt_1 : decode kb_K_nameAt 1 = .ok (.iconst 0, 1) := by decide +kernel
theorem kd_K_nameAt_2 : decode kb_K_nameAt 2 = .ok (.aload_n 0, 1) := by decide +kernel
theorem kd_K_nameAt_3 : decode kb_K_nameAt 3 = .ok (.iload_n 1, 1) := by decide +kernel
theorem kd_K_nameAt_4 : decode kb_K_nameAt 4 = .ok (.iload_n 2, 1) := by decide +kernel
theorem kd_K_nameAt_5 : decode kb_K_nameAt 5 = .ok (.invokevirtual 34, 3) := by decide +kernel
theorem kd_K_nameAt_8 : decode kb_K_nameAt 8 = .ok (.i2l, 1) := by decide +kernel
theorem kd_K_nameAt_9 : decode kb_K_nameAt 9 = .ok (.lastore, 1) := by decide +kernel
theorem kd_K_nameAt_10 : decode kb_K_nameAt 10 = .ok (.goto 7, 3) := by decide +kernel
theorem kd_K_nameAt_13 : decode kb_K_nameAt 13 = .ok (.astore 4, 2) := by decide +kernel
theorem kd_K_nameAt_15 : decode kb_K_nameAt 15 = .ok (.iconst 1, 1) := by decide +kernel
theorem kd_K_nameAt_16 : decode kb_K_nameAt 16 = .ok (.ireturn, 1) := by decide +kernel
theorem kd_K_nameAt_17 : decode kb_K_nameAt 17 = .ok (.iconst 0, 1) := by decide +kernel
theorem kd_K_nameAt_18 : decode kb_K_nameAt 18 = .ok (.ireturn, 1) := by decide +kernel
theorem kd_K_alike_0 : decode kb_K_alike 0 = .ok (.aload_n 2, 1) := by decide +kernel
theorem kd_K_alike_1 : decode kb_K_alike 1 = .ok (.iconst 0, 1) := by decide +kernel
theorem kd_K_alike_2 : decode kb_K_alike 2 = .ok (.aload_n 0, 1) := by decide +kernel
theorem kd_K_alike_3 : decode kb_K_alike 3 = .ok (.iload_n 1, 1) := by decide +kernel
theorem kd_K_alike_4 : decode kb_K_alike 4 = .ok (.invokevirtual 37, 3) := by decide +kernel
theorem kd_K_alike_7 : decode kb_K_alike 7 = .ok (.i2l, 1) := by decide +kernel
theorem kd_K_alike_8 : decode kb_K_alike 8 = .ok (.lastore, 1) := by decide +kernel
theorem kd_K_alike_9 : decode kb_K_alike 9 = .ok (.goto 6, 3) := by decide +kernel
theorem kd_K_alike_12 : decode kb_K_alike 12 = .ok (.astore_n 3, 1) := by decide +kernel
theorem kd_K_alike_13 : decode kb_K_alike 13 = .ok (.iconst 1, 1) := by decide +kernel
theorem kd_K_alike_14 : decode kb_K_alike 14 = .ok (.ireturn, 1) := by decide +kernel
theorem kd_K_alike_15 : decode kb_K_alike 15 = .ok (.iconst 0, 1) := by decide +kernel
theorem kd_K_alike_16 : decode kb_K_alike 16 = .ok (.ireturn, 1) := by decide +kernel
theorem kh_K_type : ky_K_type.cls ≠ "java/lang/invoke/MethodHandle" ∧ ky_K_type.cls ≠ "java/lang/invoke/VarHandle" ∧ (parseMethodDescriptor ky_K_type.desc).map (fun d => d.parameters.length) = some 4 := by decide +kernel
theorem kh_K_word : ky_K_word.cls ≠ "java/lang/invoke/MethodHandle" ∧ ky_K_word.cls ≠ "java/lang/invoke/VarHandle" ∧ (parseMethodDescriptor ky_K_word.desc).map (fun d => d.parameters.length) = some 4 := by decide +kernel
theorem kh_K_register : ky_K_register.cls ≠ "java/lang/invoke/MethodHandle" ∧ ky_K_register.cls ≠ "java/lang/invoke/VarHandle" ∧ (parseMethodDescriptor ky_K_register.desc).map (fun d => d.parameters.length) = some 2 := by decide +kernel
theorem kh_K_withdraw : ky_K_withdraw.cls ≠ "java/lang/invoke/MethodHandle" ∧ ky_K_withdraw.cls ≠ "java/lang/invoke/VarHandle" ∧ (parseMethodDescriptor ky_K_withdraw.desc).map (fun d => d.parameters.length) = some 3 := by decide +kernel
theorem kh_K_ranked : ky_K_ranked.cls ≠ "java/lang/invoke/MethodHandle" ∧ ky_K_ranked.cls ≠ "java/lang/invoke/VarHandle" ∧ (parseMethodDescriptor ky_K_ranked.desc).map (fun d => d.parameters.length) = some 3 := by decide +kernel
theorem kh_K_nameAt : ky_K_nameAt.cls ≠ "java/lang/invoke/MethodHandle" ∧ ky_K_nameAt.cls ≠ "java/lang/invoke/VarHandle" ∧ (parseMethodDescriptor ky_K_nameAt.desc).map (fun d => d.parameters.length) = some 4 := by decide +kernel
theorem kh_K_alike : ky_K_alike.cls ≠ "java/lang/invoke/MethodHandle" ∧ ky_K_alike.cls ≠ "java/lang/invoke/VarHandle" ∧ (parseMethodDescriptor ky_K_alike.desc).map (fun d => d.parameters.length) = some 3 := by decide +kernel
theorem zt_nc : Cond.not (.castable "java/lang/IllegalStateException" "java/lang/IllegalArgumentException") ∈ zt_tbl := List.mem_of_getElem? (i := 2) rfl
theorem zt_ca1 : Cond.castable "java/lang/IllegalArgumentException" "java/lang/IllegalArgumentException" ∈ zt_tbl := List.mem_of_getElem? (i := 356) (by decide +kernel)
theorem zt_ca2 : Cond.castable "java/lang/IllegalStateException" "java/lang/IllegalStateException" ∈ zt_tbl := List.mem_of_getElem? (i := 424) (by decide +kernel)
theorem zt_ca3 : Cond.castable "java/lang/IndexOutOfBoundsException" "java/lang/IndexOutOfBoundsException" ∈ zt_tbl := List.mem_of_getElem? (i := 539) (by decide +kernel)
abbrev kv_K_type : List Cond := .codeWith ky_K_type kb_K_type 6 (some .int) [(0, 11, 14, 13), (0, 11, 18, 15)] :: zz_tbl
abbrev kv_K_word : List Cond := .codeWith ky_K_word kb_K_word 5 (some .int) [(0, 10, 13, 13)] :: zz_tbl
abbrev kv_K_register : List Cond := .codeWith ky_K_register kb_K_register 3 (some .int) [(0, 8, 11, 13), (0, 8, 14, 15)] :: zz_tbl
abbrev kv_K_withdraw : List Cond := .codeWith ky_K_withdraw kb_K_withdraw 4 (some .int) [(0, 9, 12, 29)] :: zz_tbl
abbrev kv_K_ranked : List Cond := .codeWith ky_K_ranked kb_K_ranked 4 (some .int) [(0, 9, 12, 29)] :: zz_tbl
abbrev kv_K_nameAt : List Cond := .codeWith ky_K_nameAt kb_K_nameAt 5 (some .int) [(0, 10, 13, 29)] :: zz_tbl
abbrev kv_K_alike : List Cond := .codeWith ky_K_alike kb_K_alike 4 (some .int) [(0, 9, 12, 29)] :: zz_tbl
