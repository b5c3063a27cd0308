theorem kd_R_init_0 : decode kb_R_init 0 = .ok (.aload_n 0, 1) := by decide +kernel
theorem kd_R_init_1 : decode kb_R_init 1 = .ok (.invokespecial 3, 3) := by decide +kernel
theorem kd_R_init_4 : decode kb_R_init 4 = .ok (.aload_n 0, 1) := by decide +kernel
theorem kd_R_init_5 : decode kb_R_init 5 = .ok (.iload_n 1, 1) := by decide +kernel
theorem kd_R_init_6 : decode kb_R_init 6 = .ok (.newarray .int, 2) := by decide +kernel
theorem kd_R_init_8 : decode kb_R_init 8 = .ok (.putfield 9, 3) := by decide +kernel
theorem kd_R_init_11 : decode kb_R_init 11 = .ok (.aload_n 0, 1) := by decide +kernel
theorem kd_R_init_12 : decode kb_R_init 12 = .ok (.iconst 0, 1) := by decide +kernel
theorem kd_R_init_13 : decode kb_R_init 13 = .ok (.putfield 15, 3) := by decide +kernel
theorem kd_R_init_16 : decode kb_R_init 16 = .ok (.return_, 1) := by decide +kernel
theorem kd_R_length_0 : decode kb_R_length 0 = .ok (.aload_n 0, 1) := by decide +kernel
theorem kd_R_length_1 : decode kb_R_length 1 = .ok (.getfield 15, 3) := by decide +kernel
theorem kd_R_length_4 : decode kb_R_length 4 = .ok (.ireturn, 1) := by decide +kernel
theorem kd_R_clear_0 : decode kb_R_clear 0 = .ok (.aload_n 0, 1) := by decide +kernel
theorem kd_R_clear_1 : decode kb_R_clear 1 = .ok (.iconst 0, 1) := by decide +kernel
theorem kd_R_clear_2 : decode kb_R_clear 2 = .ok (.putfield 15, 3) := by decide +kernel
theorem kd_R_clear_5 : decode kb_R_clear 5 = .ok (.return_, 1) := by decide +kernel
theorem kd_R_at_0 : decode kb_R_at 0 = .ok (.iload_n 1, 1) := by decide +kernel
theorem kd_R_at_1 : decode kb_R_at 1 = .ok (.ifCond .lt 11, 3) := by decide +kernel
theorem kd_R_at_4 : decode kb_R_at 4 = .ok (.iload_n 1, 1) := by decide +kernel
theorem kd_R_at_5 : decode kb_R_at 5 = .ok (.aload_n 0, 1) := by decide +kernel
theorem kd_R_at_6 : decode kb_R_at 6 = .ok (.getfield 15, 3) := by decide +kernel
theorem kd_R_at_9 : decode kb_R_at 9 = .ok (.if_icmp .lt 7, 3) := by decide +kernel
theorem kd_R_at_12 : decode kb_R_at 12 = .ok (.iconst (-1), 1) := by decide +kernel
theorem kd_R_at_13 : decode kb_R_at 13 = .ok (.goto 9, 3) := by decide +kernel
theorem kd_R_at_16 : decode kb_R_at 16 = .ok (.aload_n 0, 1) := by decide +kernel
theorem kd_R_at_17 : decode kb_R_at 17 = .ok (.getfield 9, 3) := by decide +kernel
theorem kd_R_at_20 : decode kb_R_at 20 = .ok (.iload_n 1, 1) := by decide +kernel
theorem kd_R_at_21 : decode kb_R_at 21 = .ok (.iaload, 1) := by decide +kernel
theorem kd_R_at_22 : decode kb_R_at 22 = .ok (.ireturn, 1) := by decide +kernel
theorem kd_R_addApart_0 : decode kb_R_addApart 0 = .ok (.iload_n 1, 1) := by decide +kernel
theorem kd_R_addApart_1 : decode kb_R_addApart 1 = .ok (.invokestatic 19, 3) := by decide +kernel
theorem kd_R_addApart_4 : decode kb_R_addApart 4 = .ok (.ifCond .eq 22, 3) := by decide +kernel
theorem kd_R_addApart_7 : decode kb_R_addApart 7 = .ok (.aload_n 0, 1) := by decide +kernel
theorem kd_R_addApart_8 : decode kb_R_addApart 8 = .ok (.iload_n 1, 1) := by decide +kernel
theorem kd_R_addApart_9 : decode kb_R_addApart 9 = .ok (.invokestatic 25, 3) := by decide +kernel
theorem kd_R_addApart_12 : decode kb_R_addApart 12 = .ok (.invokevirtual 29, 3) := by decide +kernel
theorem kd_R_addApart_15 : decode kb_R_addApart 15 = .ok (.aload_n 0, 1) := by decide +kernel
theorem kd_R_addApart_16 : decode kb_R_addApart 16 = .ok (.iload_n 1, 1) := by decide +kernel
theorem kd_R_addApart_17 : decode kb_R_addApart 17 = .ok (.invokestatic 33, 3) := by decide +kernel
theorem kd_R_addApart_20 : decode kb_R_addApart 20 = .ok (.invokevirtual 36, 3) := by decide +kernel
theorem kd_R_addApart_23 : decode kb_R_addApart 23 = .ok (.goto 23, 3) := by decide +kernel
theorem kd_R_addApart_26 : decode kb_R_addApart 26 = .ok (.iload_n 1, 1) := by decide +kernel
theorem kd_R_addApart_27 : decode kb_R_addApart 27 = .ok (.invokestatic 39, 3) := by decide +kernel
theorem kd_R_addApart_30 : decode kb_R_addApart 30 = .ok (.ifCond .eq 11, 3) := by decide +kernel
theorem kd_R_addApart_33 : decode kb_R_addApart 33 = .ok (.aload_n 0, 1) := by decide +kernel
theorem kd_R_addApart_34 : decode kb_R_addApart 34 = .ok (.iload_n 1, 1) := by decide +kernel
theorem kd_R_addApart_35 : decode kb_R_addApart 35 = .ok (.invokevirtual 36, 3) := by decide +kernel
theorem kd_R_addApart_38 : decode kb_R_addApart 38 = .ok (.goto 8, 3) := by decide +kernel
theorem kd_R_addApart_41 : decode kb_R_addApart 41 = .ok (.aload_n 0, 1) := by decide +kernel
theorem kd_R_addApart_42 : decode kb_R_addApart 42 = .ok (.iload_n 1, 1) := by decide +kernel
theorem kd_R_addApart_43 : decode kb_R_addApart 43 = .ok (.invokevirtual 29, 3) := by decide +kernel
theorem kd_R_addApart_46 : decode kb_R_addApart 46 = .ok (.return_, 1) := by decide +kernel
theorem kd_R_add_0 : decode kb_R_add 0 = .ok (.aload_n 0, 1) := by decide +kernel
theorem kd_R_add_1 : decode kb_R_add 1 = .ok (.getfield 15, 3) := by decide +kernel
theorem kd_R_add_4 : decode kb_R_add 4 = .ok (.aload_n 0, 1) := by decide +kernel
theorem kd_R_add_5 : decode kb_R_add 5 = .ok (.getfield 9, 3) := by decide +kernel
theorem kd_R_add_8 : decode kb_R_add 8 = .ok (.arraylength, 1) := by decide +kernel
theorem kd_R_add_9 : decode kb_R_add 9 = .ok (.if_icmp .ge 23, 3) := by decide +kernel
theorem kd_R_add_12 : decode kb_R_add 12 = .ok (.aload_n 0, 1) := by decide +kernel
theorem kd_R_add_13 : decode kb_R_add 13 = .ok (.getfield 9, 3) := by decide +kernel
theorem kd_R_add_16 : decode kb_R_add 16 = .ok (.aload_n 0, 1) := by decide +kernel
theorem kd_R_add_17 : decode kb_R_add 17 = .ok (.getfield 15, 3) := by decide +kernel
theorem kd_R_add_20 : decode kb_R_add 20 = .ok (.iload_n 1, 1) := by decide +kernel
theorem kd_R_add_21 : decode kb_R_add 21 = .ok (.iastore, 1) := by decide +kernel
theorem kd_R_add_22 : decode kb_R_add 22 = .ok (.aload_n 0, 1) := by decide +kernel
theorem kd_R_add_23 : decode kb_R_add 23 = .ok (.dup, 1) := by decide +kernel
theorem kd_R_add_24 : decode kb_R_add 24 = .ok (.getfield 15, 3) := by decide +kernel
theorem kd_R_add_27 : decode kb_R_add 27 = .ok (.iconst 1, 1) := by decide +kernel
theorem kd_R_add_28 : decode kb_R_add 28 = .ok (.iadd, 1) := by decide +kernel
theorem kd_R_add_29 : decode kb_R_add 29 = .ok (.putfield 15, 3) := by decide +kernel
theorem kd_R_add_32 : decode kb_R_add 32 = .ok (.return_, 1) := by decide +kernel
theorem kd_R_addMark_0 : decode kb_R_addMark 0 = .ok (.aload_n 0, 1) := by decide +kernel
theorem kd_R_addMark_1 : decode kb_R_addMark 1 = .ok (.getfield 15, 3) := by decide +kernel
theorem kd_R_addMark_4 : decode kb_R_addMark 4 = .ok (.aload_n 0, 1) := by decide +kernel
theorem kd_R_addMark_5 : decode kb_R_addMark 5 = .ok (.getfield 9, 3) := by decide +kernel
theorem kd_R_addMark_8 : decode kb_R_addMark 8 = .ok (.arraylength, 1) := by decide +kernel
theorem kd_R_addMark_9 : decode kb_R_addMark 9 = .ok (.if_icmp .lt 4, 3) := by decide +kernel
theorem kd_R_addMark_12 : decode kb_R_addMark 12 = .ok (.return_, 1) := by decide +kernel
theorem kd_R_addMark_13 : decode kb_R_addMark 13 = .ok (.aload_n 0, 1) := by decide +kernel
theorem kd_R_addMark_14 : decode kb_R_addMark 14 = .ok (.getfield 15, 3) := by decide +kernel
theorem kd_R_addMark_17 : decode kb_R_addMark 17 = .ok (.istore_n 2, 1) := by decide +kernel
theorem kd_R_addMark_18 : decode kb_R_addMark 18 = .ok (.iload_n 2, 1) := by decide +kernel
theorem kd_R_addMark_19 : decode kb_R_addMark 19 = .ok (.ifCond .le 41, 3) := by decide +kernel
theorem kd_R_addMark_22 : decode kb_R_addMark 22 = .ok (.aload_n 0, 1) := by decide +kernel
theorem kd_R_addMark_23 : decode kb_R_addMark 23 = .ok (.getfield 9, 3) := by decide +kernel
theorem kd_R_addMark_26 : decode kb_R_addMark 26 = .ok (.iload_n 2, 1) := by decide +kernel
theorem kd_R_addMark_27 : decode kb_R_addMark 27 = .ok (.iconst 1, 1) := by decide +kernel
theorem kd_R_addMark_28 : decode kb_R_addMark 28 = .ok (.isub, 1) := by decide +kernel
theorem kd_R_addMark_29 : decode kb_R_addMark 29 = .ok (.iaload, 1) := by decide +kernel
theorem kd_R_addMark_30 : decode kb_R_addMark 30 = .ok (.invokestatic 42, 3) := by decide +kernel
theorem kd_R_addMark_33 : decode kb_R_addMark 33 = .ok (.iload_n 1, 1) := by decide +kernel
theorem kd_R_addMark_34 : decode kb_R_addMark 34 = .ok (.invokestatic 42, 3) := by decide +kernel
theorem kd_R_addMark_37 : decode kb_R_addMark 37 = .ok (.if_icmp .le 23, 3) := by decide +kernel
theorem kd_R_addMark_40 : decode kb_R_addMark 40 = .ok (.aload_n 0, 1) := by decide +kernel
theorem kd_R_addMark_41 : decode kb_R_addMark 41 = .ok (.getfield 9, 3) := by decide +kernel
theorem kd_R_addMark_44 : decode kb_R_addMark 44 = .ok (.iload_n 2, 1) := by decide +kernel
theorem kd_R_addMark_45 : decode kb_R_addMark 45 = .ok (.aload_n 0, 1) := by decide +kernel
theorem kd_R_addMark_46 : decode kb_R_addMark 46 = .ok (.getfield 9, 3) := by decide +kernel
theorem kd_R_addMark_49 : decode kb_R_addMark 49 = .ok (.iload_n 2, 1) := by decide +kernel
theorem kd_R_addMark_50 : decode kb_R_addMark 50 = .ok (.iconst 1, 1) := by decide +kernel
theorem kd_R_addMark_51 : decode kb_R_addMark 51 = .ok (.isub, 1) := by decide +kernel
theorem kd_R_addMark_52 : decode kb_R_addMark 52 = .ok (.iaload, 1) := by decide +kernel
theorem kd_R_addMark_53 : decode kb_R_addMark 53 = .ok (.iastore, 1) := by decide +kernel
theorem kd_R_addMark_54 : decode kb_R_addMark 54 = .ok (.iinc 2 (-1), 3) := by decide +kernel
theorem kd_R_addMark_57 : decode kb_R_addMark 57 = .ok (.goto (-39), 3) := by decide +kernel
theorem kd_R_addMark_60 : decode kb_R_addMark 60 = .ok (.aload_n 0, 1) := by decide +kernel
theorem kd_R_addMark_61 : decode kb_R_addMark 61 = .ok (.getfield 9, 3) := by decide +kernel
theorem kd_R_addMark_64 : decode kb_R_addMark 64 = .ok (.iload_n 2, 1) := by decide +kernel
theorem kd_R_addMark_65 : decode kb_R_addMark 65 = .ok (.iload_n 1, 1) := by decide +kernel
theorem kd_R_addMark_66 : decode kb_R_addMark 66 = .ok (.iastore, 1) := by decide +kernel
theorem kd_R_addMark_67 : decode kb_R_addMark 67 = .ok (.aload_n 0, 1) := by decide +kernel
theorem kd_R_addMark_68 : decode kb_R_addMark 68 = .ok (.dup, 1) := by decide +kernel
theorem kd_R_addMark_69 : decode kb_R_addMark 69 = .ok (.getfield 15, 3) := by decide +kernel
theorem kd_R_addMark_72 : decode kb_R_addMark 72 = .ok (.iconst 1, 1) := by decide +kernel
theorem kd_R_addMark_73 : decode kb_R_addMark 73 = .ok (.iadd, 1) := by decide +kernel
theorem kd_R_addMark_74 : decode kb_R_addMark 74 = .ok (.putfield 15, 3) := by decide +kernel
theorem kd_R_addMark_77 : decode kb_R_addMark 77 = .ok (.return_, 1) := by decide +kernel
theorem kd_R_order_0 : decode kb_R_order 0 = .ok (.aload_n 0, 1) := by decide +kernel
theorem kd_R_order_1 : decode kb_R_order 1 = .ok (.getfield 15, 3) := by decide +kernel
theorem kd_R_order_4 : decode kb_R_order 4 = .ok (.aload_n 1, 1) := by decide +kernel
theorem kd_R_order_5 : decode kb_R_order 5 = .ok (.getfield 15, 3) := by decide +kernel
theorem kd_R_order_8 : decode kb_R_order 8 = .ok (.invokestatic 51, 3) := by decide +kernel
theorem kd_R_order_11 : decode kb_R_order 11 = .ok (.istore_n 2, 1) := by decide +kernel
theorem kd_R_order_12 : decode kb_R_order 12 = .ok (.iconst 0, 1) := by decide +kernel
theorem kd_R_order_13 : decode kb_R_order 13 = .ok (.istore_n 3, 1) := by decide +kernel
theorem kd_R_order_14 : decode kb_R_order 14 = .ok (.iload_n 3, 1) := by decide +kernel
theorem kd_R_order_15 : decode kb_R_order 15 = .ok (.iload_n 2, 1) := by decide +kernel
theorem kd_R_order_16 : decode kb_R_order 16 = .ok (.if_icmp .ge 40, 3) := by decide +kernel
theorem kd_R_order_19 : decode kb_R_order 19 = .ok (.aload_n 0, 1) := by decide +kernel
theorem kd_R_order_20 : decode kb_R_order 20 = .ok (.getfield 9, 3) := by decide +kernel
theorem kd_R_order_23 : decode kb_R_order 23 = .ok (.iload_n 3, 1) := by decide +kernel
theorem kd_R_order_24 : decode kb_R_order 24 = .ok (.iaload, 1) := by decide +kernel
theorem kd_R_order_25 : decode kb_R_order 25 = .ok (.aload_n 1, 1) := by decide +kernel
theorem kd_R_order_26 : decode kb_R_order 26 = .ok (.getfield 9, 3) := by decide +kernel
theorem kd_R_order_29 : decode kb_R_order 29 = .ok (.iload_n 3, 1) := by decide +kernel
theorem kd_R_order_30 : decode kb_R_order 30 = .ok (.iaload, 1) := by decide +kernel
theorem kd_R_order_31 : decode kb_R_order 31 = .ok (.if_icmp .eq 19, 3) := by decide +kernel
theorem kd_R_order_34 : decode kb_R_order 34 = .ok (.aload_n 0, 1) := by decide +kernel
theorem kd_R_order_35 : decode kb_R_order 35 = .ok (.getfield 9, 3) := by decide +kernel
theorem kd_R_order_38 : decode kb_R_order 38 = .ok (.iload_n 3, 1) := by decide +kernel
theorem kd_R_order_39 : decode kb_R_order 39 = .ok (.iaload, 1) := by decide +kernel
theorem kd_R_order_40 : decode kb_R_order 40 = .ok (.aload_n 1, 1) := by decide +kernel
theorem kd_R_order_41 : decode kb_R_order 41 = .ok (.getfield 9, 3) := by decide +kernel
theorem kd_R_order_44 : decode kb_R_order 44 = .ok (.iload_n 3, 1) := by decide +kernel
theorem kd_R_order_45 : decode kb_R_order 45 = .ok (.iaload, 1) := by decide +kernel
theorem kd_R_order_46 : decode kb_R_order 46 = .ok (.invokestatic 57, 3) := by decide +kernel
theorem kd_R_order_49 : decode kb_R_order 49 = .ok (.ireturn, 1) := by decide +kernel
theorem kd_R_order_50 : decode kb_R_order 50 = .ok (.iinc 3 1, 3) := by decide +kernel
theorem kd_R_order_53 : decode kb_R_order 53 = .ok (.goto (-39), 3) := by decide +kernel
theorem kd_R_order_56 : decode kb_R_order 56 = .ok (.aload_n 0, 1) := by decide +kernel
theorem kd_R_order_57 : decode kb_R_order 57 = .ok (.getfield 15, 3) := by decide +kernel
theorem kd_R_order_60 : decode kb_R_order 60 = .ok (.aload_n 1, 1) := by decide +kernel
theorem kd_R_order_61 : decode kb_R_order 61 = .ok (.getfield 15, 3) := by decide +kernel
theorem kd_R_order_64 : decode kb_R_order 64 = .ok (.invokestatic 57, 3) := by decide +kernel
theorem kd_R_order_67 : decode kb_R_order 67 = .ok (.ireturn, 1) := by decide +kernel
theorem kd_I_compare_0 : decode kb_I_compare 0 = .ok (.iload_n 0, 1) := by decide +kernel
theorem kd_I_compare_1 : decode kb_I_compare 1 = .ok (.iload_n 1, 1) := by decide +kernel
theorem kd_I_compare_2 : decode kb_I_compare 2 = .ok (.if_icmp .ge 7, 3) := by decide +kernel
theorem kd_I_compare_5 : decode kb_I_compare 5 = .ok (.iconst (-1), 1) := by decide +kernel
theorem kd_I_compare_6 : decode kb_I_compare 6 = .ok (.goto 13, 3) := by decide +kernel
theorem kd_I_compare_9 : decode kb_I_compare 9 = .ok (.iload_n 0, 1) := by decide +kernel
theorem kd_I_compare_10 : decode kb_I_compare 10 = .ok (.iload_n 1, 1) := by decide +kernel
theorem kd_I_compare_11 : decode kb_I_compare 11 = .ok (.if_icmp .ne 7, 3) := by decide +kernel
theorem kd_I_compare_14 : decode kb_I_compare 14 = .ok (.iconst 0, 1) := by decide +kernel
theorem kd_I_compare_15 : decode kb_I_compare 15 = .ok (.goto 4, 3) := by decide +kernel
theorem kd_I_compare_18 : decode kb_I_compare 18 = .ok (.iconst 1, 1) := by decide +kernel
theorem kd_I_compare_19 : decode kb_I_compare 19 = .ok (.ireturn, 1) := by decide +kernel
theorem kd_R_copy_0 : decode kb_R_copy 0 = .ok (.aload_n 0, 1) := by decide +kernel
theorem kd_R_copy_1 : decode kb_R_copy 1 = .ok (.invokevirtual 45, 3) := by decide +kernel
theorem kd_R_copy_4 : decode kb_R_copy 4 = .ok (.iconst 0, 1) := by decide +kernel
theorem kd_R_copy_5 : decode kb_R_copy 5 = .ok (.istore_n 2, 1) := by decide +kernel
theorem kd_R_copy_6 : decode kb_R_copy 6 = .ok (.iload_n 2, 1) := by decide +kernel
theorem kd_R_copy_7 : decode kb_R_copy 7 = .ok (.aload_n 1, 1) := by decide +kernel
theorem kd_R_copy_8 : decode kb_R_copy 8 = .ok (.getfield 15, 3) := by decide +kernel
theorem kd_R_copy_11 : decode kb_R_copy 11 = .ok (.if_icmp .ge 18, 3) := by decide +kernel
theorem kd_R_copy_14 : decode kb_R_copy 14 = .ok (.aload_n 0, 1) := by decide +kernel
theorem kd_R_copy_15 : decode kb_R_copy 15 = .ok (.aload_n 1, 1) := by decide +kernel
theorem kd_R_copy_16 : decode kb_R_copy 16 = .ok (.iload_n 2, 1) := by decide +kernel
theorem kd_R_copy_17 : decode kb_R_copy 17 = .ok (.invokevirtual 48, 3) := by decide +kernel
theorem kd_R_copy_20 : decode kb_R_copy 20 = .ok (.invokevirtual 29, 3) := by decide +kernel
theorem kd_R_copy_23 : decode kb_R_copy 23 = .ok (.iinc 2 1, 3) := by decide +kernel
theorem kd_R_copy_26 : decode kb_R_copy 26 = .ok (.goto (-20), 3) := by decide +kernel
theorem kd_R_copy_29 : decode kb_R_copy 29 = .ok (.return_, 1) := by decide +kernel
theorem kh_R_init : ky_R_init.cls ≠ "java/lang/invoke/MethodHandle" ∧ ky_R_init.cls ≠ "java/lang/invoke/VarHandle" ∧ (parseMethodDescriptor ky_R_init.desc).map (fun d => d.parameters.length) = some 1 := by decide +kernel
theorem kh_R_length : ky_R_length.cls ≠ "java/lang/invoke/MethodHandle" ∧ ky_R_length.cls ≠ "java/lang/invoke/VarHandle" ∧ (parseMethodDescriptor ky_R_length.desc).map (fun d => d.parameters.length) = some 0 := by decide +kernel
theorem kh_R_clear : ky_R_clear.cls ≠ "java/lang/invoke/MethodHandle" ∧ ky_R_clear.cls ≠ "java/lang/invoke/VarHandle" ∧ (parseMethodDescriptor ky_R_clear.desc).map (fun d => d.parameters.length) = some 0 := by decide +kernel
theorem kh_R_at : ky_R_at.cls ≠ "java/lang/invoke/MethodHandle" ∧ ky_R_at.cls ≠ "java/lang/invoke/VarHandle" ∧ (parseMethodDescriptor ky_R_at.desc).map (fun d => d.parameters.length) = some 1 := by decide +kernel
theorem kh_R_addApart : ky_R_addApart.cls ≠ "java/lang/invoke/MethodHandle" ∧ ky_R_addApart.cls ≠ "java/lang/invoke/VarHandle" ∧ (parseMethodDescriptor ky_R_addApart.desc).map (fun d => d.parameters.length) = some 1 := by decide +kernel
theorem kh_R_add : ky_R_add.cls ≠ "java/lang/invoke/MethodHandle" ∧ ky_R_add.cls ≠ "java/lang/invoke/VarHandle" ∧ (parseMethodDescriptor ky_R_add.desc).map (fun d => d.parameters.length) = some 1 := by decide +kernel
theorem kh_R_addMark : ky_R_addMark.cls ≠ "java/lang/invoke/MethodHandle" ∧ ky_R_addMark.cls ≠ "java/lang/invoke/VarHandle" ∧ (parseMethodDescriptor ky_R_addMark.desc).map (fun d => d.parameters.length) = some 1 := by decide +kernel
theorem kh_R_order : ky_R_order.cls ≠ "java/lang/invoke/MethodHandle" ∧ ky_R_order.cls ≠ "java/lang/invoke/VarHandle" ∧ (parseMethodDescriptor ky_R_order.desc).map (fun d => d.parameters.length) = some 1 := by decide +kernel
theorem kh_I_compare : ky_I_compare.cls ≠ "java/lang/invoke/MethodHandle" ∧ ky_I_compare.cls ≠ "java/lang/invoke/VarHandle" ∧ (parseMethodDescriptor ky_I_compare.desc).map (fun d => d.parameters.length) = some 2 := by decide +kernel
theorem kh_R_copy : ky_R_copy.cls ≠ "java/lang/invoke/MethodHandle" ∧ ky_R_copy.cls ≠ "java/lang/invoke/VarHandle" ∧ (parseMethodDescriptor ky_R_copy.desc).map (fun d => d.parameters.length) = some 1 := by decide +kernel
