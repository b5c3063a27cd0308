theorem kd_G_init_0 : decode kb_G_init 0 = .ok (.aload_n 0, 1) := by decide +kernel
theorem kd_G_init_1 : decode kb_G_init 1 = .ok (.invokespecial 3, 3) := by decide +kernel
theorem kd_G_init_4 : decode kb_G_init 4 = .ok (.aload_n 0, 1) := by decide +kernel
theorem kd_G_init_5 : decode kb_G_init 5 = .ok (.bipush 12, 2) := by decide +kernel
theorem kd_G_init_7 : decode kb_G_init 7 = .ok (.anewarray 9, 3) := by decide +kernel
theorem kd_G_init_10 : decode kb_G_init 10 = .ok (.putfield 11, 3) := by decide +kernel
theorem kd_G_init_13 : decode kb_G_init 13 = .ok (.iconst 0, 1) := by decide +kernel
theorem kd_G_init_14 : decode kb_G_init 14 = .ok (.istore_n 1, 1) := by decide +kernel
theorem kd_G_init_15 : decode kb_G_init 15 = .ok (.iload_n 1, 1) := by decide +kernel
theorem kd_G_init_16 : decode kb_G_init 16 = .ok (.bipush 12, 2) := by decide +kernel
theorem kd_G_init_18 : decode kb_G_init 18 = .ok (.if_icmp .ge 22, 3) := by decide +kernel
theorem kd_G_init_21 : decode kb_G_init 21 = .ok (.aload_n 0, 1) := by decide +kernel
theorem kd_G_init_22 : decode kb_G_init 22 = .ok (.getfield 11, 3) := by decide +kernel
theorem kd_G_init_25 : decode kb_G_init 25 = .ok (.iload_n 1, 1) := by decide +kernel
theorem kd_G_init_26 : decode kb_G_init 26 = .ok (.new 9, 3) := by decide +kernel
theorem kd_G_init_29 : decode kb_G_init 29 = .ok (.dup, 1) := by decide +kernel
theorem kd_G_init_30 : decode kb_G_init 30 = .ok (.invokespecial 17, 3) := by decide +kernel
theorem kd_G_init_33 : decode kb_G_init 33 = .ok (.aastore, 1) := by decide +kernel
theorem kd_G_init_34 : decode kb_G_init 34 = .ok (.iinc 1 1, 3) := by decide +kernel
theorem kd_G_init_37 : decode kb_G_init 37 = .ok (.goto (-22), 3) := by decide +kernel
theorem kd_G_init_40 : decode kb_G_init 40 = .ok (.aload_n 0, 1) := by decide +kernel
theorem kd_G_init_41 : decode kb_G_init 41 = .ok (.iconst 0, 1) := by decide +kernel
theorem kd_G_init_42 : decode kb_G_init 42 = .ok (.putfield 18, 3) := by decide +kernel
theorem kd_G_init_45 : decode kb_G_init 45 = .ok (.return_, 1) := by decide +kernel
theorem kd_G_firstLike_0 : decode kb_G_firstLike 0 = .ok (.iload_n 2, 1) := by decide +kernel
theorem kd_G_firstLike_1 : decode kb_G_firstLike 1 = .ok (.iconst 0, 1) := by decide +kernel
theorem kd_G_firstLike_2 : decode kb_G_firstLike 2 = .ok (.invokestatic 52, 3) := by decide +kernel
theorem kd_G_firstLike_5 : decode kb_G_firstLike 5 = .ok (.istore_n 3, 1) := by decide +kernel
theorem kd_G_firstLike_6 : decode kb_G_firstLike 6 = .ok (.iload_n 3, 1) := by decide +kernel
theorem kd_G_firstLike_7 : decode kb_G_firstLike 7 = .ok (.aload_n 0, 1) := by decide +kernel
theorem kd_G_firstLike_8 : decode kb_G_firstLike 8 = .ok (.getfield 18, 3) := by decide +kernel
theorem kd_G_firstLike_11 : decode kb_G_firstLike 11 = .ok (.if_icmp .ge 24, 3) := by decide +kernel
theorem kd_G_firstLike_14 : decode kb_G_firstLike 14 = .ok (.aload_n 0, 1) := by decide +kernel
theorem kd_G_firstLike_15 : decode kb_G_firstLike 15 = .ok (.getfield 11, 3) := by decide +kernel
theorem kd_G_firstLike_18 : decode kb_G_firstLike 18 = .ok (.iload_n 3, 1) := by decide +kernel
theorem kd_G_firstLike_19 : decode kb_G_firstLike 19 = .ok (.aaload, 1) := by decide +kernel
theorem kd_G_firstLike_20 : decode kb_G_firstLike 20 = .ok (.aload_n 1, 1) := by decide +kernel
theorem kd_G_firstLike_21 : decode kb_G_firstLike 21 = .ok (.invokevirtual 58, 3) := by decide +kernel
theorem kd_G_firstLike_24 : decode kb_G_firstLike 24 = .ok (.ifCond .eq 5, 3) := by decide +kernel
theorem kd_G_firstLike_27 : decode kb_G_firstLike 27 = .ok (.iload_n 3, 1) := by decide +kernel
theorem kd_G_firstLike_28 : decode kb_G_firstLike 28 = .ok (.ireturn, 1) := by decide +kernel
theorem kd_G_firstLike_29 : decode kb_G_firstLike 29 = .ok (.iinc 3 1, 3) := by decide +kernel
theorem kd_G_firstLike_32 : decode kb_G_firstLike 32 = .ok (.goto (-26), 3) := by decide +kernel
theorem kd_G_firstLike_35 : decode kb_G_firstLike 35 = .ok (.iconst (-1), 1) := by decide +kernel
theorem kd_G_firstLike_36 : decode kb_G_firstLike 36 = .ok (.ireturn, 1) := by decide +kernel
theorem kd_G_isFull_0 : decode kb_G_isFull 0 = .ok (.aload_n 0, 1) := by decide +kernel
theorem kd_G_isFull_1 : decode kb_G_isFull 1 = .ok (.getfield 18, 3) := by decide +kernel
theorem kd_G_isFull_4 : decode kb_G_isFull 4 = .ok (.bipush 12, 2) := by decide +kernel
theorem kd_G_isFull_6 : decode kb_G_isFull 6 = .ok (.if_icmp .lt 7, 3) := by decide +kernel
theorem kd_G_isFull_9 : decode kb_G_isFull 9 = .ok (.iconst 1, 1) := by decide +kernel
theorem kd_G_isFull_10 : decode kb_G_isFull 10 = .ok (.goto 4, 3) := by decide +kernel
theorem kd_G_isFull_13 : decode kb_G_isFull 13 = .ok (.iconst 0, 1) := by decide +kernel
theorem kd_G_isFull_14 : decode kb_G_isFull 14 = .ok (.ireturn, 1) := by decide +kernel
theorem kd_G_holds_0 : decode kb_G_holds 0 = .ok (.iconst 0, 1) := by decide +kernel
theorem kd_G_holds_1 : decode kb_G_holds 1 = .ok (.istore_n 2, 1) := by decide +kernel
theorem kd_G_holds_2 : decode kb_G_holds 2 = .ok (.iload_n 2, 1) := by decide +kernel
theorem kd_G_holds_3 : decode kb_G_holds 3 = .ok (.aload_n 0, 1) := by decide +kernel
theorem kd_G_holds_4 : decode kb_G_holds 4 = .ok (.getfield 18, 3) := by decide +kernel
theorem kd_G_holds_7 : decode kb_G_holds 7 = .ok (.if_icmp .ge 24, 3) := by decide +kernel
theorem kd_G_holds_10 : decode kb_G_holds 10 = .ok (.aload_n 0, 1) := by decide +kernel
theorem kd_G_holds_11 : decode kb_G_holds 11 = .ok (.getfield 11, 3) := by decide +kernel
theorem kd_G_holds_14 : decode kb_G_holds 14 = .ok (.iload_n 2, 1) := by decide +kernel
theorem kd_G_holds_15 : decode kb_G_holds 15 = .ok (.aaload, 1) := by decide +kernel
theorem kd_G_holds_16 : decode kb_G_holds 16 = .ok (.aload_n 1, 1) := by decide +kernel
theorem kd_G_holds_17 : decode kb_G_holds 17 = .ok (.invokevirtual 22, 3) := by decide +kernel
theorem kd_G_holds_20 : decode kb_G_holds 20 = .ok (.ifCond .eq 5, 3) := by decide +kernel
theorem kd_G_holds_23 : decode kb_G_holds 23 = .ok (.iconst 1, 1) := by decide +kernel
theorem kd_G_holds_24 : decode kb_G_holds 24 = .ok (.ireturn, 1) := by decide +kernel
theorem kd_G_holds_25 : decode kb_G_holds 25 = .ok (.iinc 2 1, 3) := by decide +kernel
theorem kd_G_holds_28 : decode kb_G_holds 28 = .ok (.goto (-26), 3) := by decide +kernel
theorem kd_G_holds_31 : decode kb_G_holds 31 = .ok (.iconst 0, 1) := by decide +kernel
theorem kd_G_holds_32 : decode kb_G_holds 32 = .ok (.ireturn, 1) := by decide +kernel
theorem kd_G_keep_0 : decode kb_G_keep 0 = .ok (.aload_n 0, 1) := by decide +kernel
theorem kd_G_keep_1 : decode kb_G_keep 1 = .ok (.invokevirtual 26, 3) := by decide +kernel
theorem kd_G_keep_4 : decode kb_G_keep 4 = .ok (.ifCond .ne 26, 3) := by decide +kernel
theorem kd_G_keep_7 : decode kb_G_keep 7 = .ok (.aload_n 0, 1) := by decide +kernel
theorem kd_G_keep_8 : decode kb_G_keep 8 = .ok (.getfield 11, 3) := by decide +kernel
theorem kd_G_keep_11 : decode kb_G_keep 11 = .ok (.aload_n 0, 1) := by decide +kernel
theorem kd_G_keep_12 : decode kb_G_keep 12 = .ok (.getfield 18, 3) := by decide +kernel
theorem kd_G_keep_15 : decode kb_G_keep 15 = .ok (.aaload, 1) := by decide +kernel
theorem kd_G_keep_16 : decode kb_G_keep 16 = .ok (.aload_n 1, 1) := by decide +kernel
theorem kd_G_keep_17 : decode kb_G_keep 17 = .ok (.invokevirtual 30, 3) := by decide +kernel
theorem kd_G_keep_20 : decode kb_G_keep 20 = .ok (.aload_n 0, 1) := by decide +kernel
theorem kd_G_keep_21 : decode kb_G_keep 21 = .ok (.dup, 1) := by decide +kernel
theorem kd_G_keep_22 : decode kb_G_keep 22 = .ok (.getfield 18, 3) := by decide +kernel
theorem kd_G_keep_25 : decode kb_G_keep 25 = .ok (.iconst 1, 1) := by decide +kernel
theorem kd_G_keep_26 : decode kb_G_keep 26 = .ok (.iadd, 1) := by decide +kernel
theorem kd_G_keep_27 : decode kb_G_keep 27 = .ok (.putfield 18, 3) := by decide +kernel
theorem kd_G_keep_30 : decode kb_G_keep 30 = .ok (.return_, 1) := by decide +kernel
theorem kd_G_count_0 : decode kb_G_count 0 = .ok (.aload_n 0, 1) := by decide +kernel
theorem kd_G_count_1 : decode kb_G_count 1 = .ok (.getfield 18, 3) := by decide +kernel
theorem kd_G_count_4 : decode kb_G_count 4 = .ok (.ireturn, 1) := by decide +kernel
theorem kd_G_has_0 : decode kb_G_has 0 = .ok (.iload_n 1, 1) := by decide +kernel
theorem kd_G_has_1 : decode kb_G_has 1 = .ok (.ifCond .lt 15, 3) := by decide +kernel
theorem kd_G_has_4 : decode kb_G_has 4 = .ok (.iload_n 1, 1) := by decide +kernel
theorem kd_G_has_5 : decode kb_G_has 5 = .ok (.aload_n 0, 1) := by decide +kernel
theorem kd_G_has_6 : decode kb_G_has 6 = .ok (.getfield 18, 3) := by decide +kernel
theorem kd_G_has_9 : decode kb_G_has 9 = .ok (.if_icmp .ge 7, 3) := by decide +kernel
theorem kd_G_has_12 : decode kb_G_has 12 = .ok (.iconst 1, 1) := by decide +kernel
theorem kd_G_has_13 : decode kb_G_has 13 = .ok (.goto 4, 3) := by decide +kernel
theorem kd_G_has_16 : decode kb_G_has 16 = .ok (.iconst 0, 1) := by decide +kernel
theorem kd_G_has_17 : decode kb_G_has 17 = .ok (.ireturn, 1) := by decide +kernel
theorem kd_G_drop_0 : decode kb_G_drop 0 = .ok (.aload_n 0, 1) := by decide +kernel
theorem kd_G_drop_1 : decode kb_G_drop 1 = .ok (.iload_n 1, 1) := by decide +kernel
theorem kd_G_drop_2 : decode kb_G_drop 2 = .ok (.invokevirtual 34, 3) := by decide +kernel
theorem kd_G_drop_5 : decode kb_G_drop 5 = .ok (.ifCond .ne 4, 3) := by decide +kernel
theorem kd_G_drop_8 : decode kb_G_drop 8 = .ok (.return_, 1) := by decide +kernel
theorem kd_G_drop_9 : decode kb_G_drop 9 = .ok (.aload_n 0, 1) := by decide +kernel
theorem kd_G_drop_10 : decode kb_G_drop 10 = .ok (.getfield 11, 3) := by decide +kernel
theorem kd_G_drop_13 : decode kb_G_drop 13 = .ok (.iload_n 1, 1) := by decide +kernel
theorem kd_G_drop_14 : decode kb_G_drop 14 = .ok (.aaload, 1) := by decide +kernel
theorem kd_G_drop_15 : decode kb_G_drop 15 = .ok (.astore_n 2, 1) := by decide +kernel
theorem kd_G_drop_16 : decode kb_G_drop 16 = .ok (.iload_n 1, 1) := by decide +kernel
theorem kd_G_drop_17 : decode kb_G_drop 17 = .ok (.istore_n 3, 1) := by decide +kernel
theorem kd_G_drop_18 : decode kb_G_drop 18 = .ok (.iload_n 3, 1) := by decide +kernel
theorem kd_G_drop_19 : decode kb_G_drop 19 = .ok (.aload_n 0, 1) := by decide +kernel
theorem kd_G_drop_20 : decode kb_G_drop 20 = .ok (.getfield 18, 3) := by decide +kernel
theorem kd_G_drop_23 : decode kb_G_drop 23 = .ok (.iconst 1, 1) := by decide +kernel
theorem kd_G_drop_24 : decode kb_G_drop 24 = .ok (.isub, 1) := by decide +kernel
theorem kd_G_drop_25 : decode kb_G_drop 25 = .ok (.if_icmp .ge 23, 3) := by decide +kernel
theorem kd_G_drop_28 : decode kb_G_drop 28 = .ok (.aload_n 0, 1) := by decide +kernel
theorem kd_G_drop_29 : decode kb_G_drop 29 = .ok (.getfield 11, 3) := by decide +kernel
theorem kd_G_drop_32 : decode kb_G_drop 32 = .ok (.iload_n 3, 1) := by decide +kernel
theorem kd_G_drop_33 : decode kb_G_drop 33 = .ok (.aload_n 0, 1) := by decide +kernel
theorem kd_G_drop_34 : decode kb_G_drop 34 = .ok (.getfield 11, 3) := by decide +kernel
theorem kd_G_drop_37 : decode kb_G_drop 37 = .ok (.iload_n 3, 1) := by decide +kernel
theorem kd_G_drop_38 : decode kb_G_drop 38 = .ok (.iconst 1, 1) := by decide +kernel
theorem kd_G_drop_39 : decode kb_G_drop 39 = .ok (.iadd, 1) := by decide +kernel
theorem kd_G_drop_40 : decode kb_G_drop 40 = .ok (.aaload, 1) := by decide +kernel
theorem kd_G_drop_41 : decode kb_G_drop 41 = .ok (.aastore, 1) := by decide +kernel
theorem kd_G_drop_42 : decode kb_G_drop 42 = .ok (.iinc 3 1, 3) := by decide +kernel
theorem kd_G_drop_45 : decode kb_G_drop 45 = .ok (.goto (-27), 3) := by decide +kernel
theorem kd_G_drop_48 : decode kb_G_drop 48 = .ok (.aload_n 0, 1) := by decide +kernel
theorem kd_G_drop_49 : decode kb_G_drop 49 = .ok (.dup, 1) := by decide +kernel
theorem kd_G_drop_50 : decode kb_G_drop 50 = .ok (.getfield 18, 3) := by decide +kernel
theorem kd_G_drop_53 : decode kb_G_drop 53 = .ok (.iconst 1, 1) := by decide +kernel
theorem kd_G_drop_54 : decode kb_G_drop 54 = .ok (.isub, 1) := by decide +kernel
theorem kd_G_drop_55 : decode kb_G_drop 55 = .ok (.putfield 18, 3) := by decide +kernel
theorem kd_G_drop_58 : decode kb_G_drop 58 = .ok (.aload_n 0, 1) := by decide +kernel
theorem kd_G_drop_59 : decode kb_G_drop 59 = .ok (.getfield 11, 3) := by decide +kernel
theorem kd_G_drop_62 : decode kb_G_drop 62 = .ok (.aload_n 0, 1) := by decide +kernel
theorem kd_G_drop_63 : decode kb_G_drop 63 = .ok (.getfield 18, 3) := by decide +kernel
theorem kd_G_drop_66 : decode kb_G_drop 66 = .ok (.aload_n 2, 1) := by decide +kernel
theorem kd_G_drop_67 : decode kb_G_drop 67 = .ok (.aastore, 1) := by decide +kernel
theorem kd_G_drop_68 : decode kb_G_drop 68 = .ok (.return_, 1) := by decide +kernel
theorem kd_G_atPlace_0 : decode kb_G_atPlace 0 = .ok (.iconst 0, 1) := by decide +kernel
theorem kd_G_atPlace_1 : decode kb_G_atPlace 1 = .ok (.istore_n 2, 1) := by decide +kernel
theorem kd_G_atPlace_2 : decode kb_G_atPlace 2 = .ok (.iload_n 2, 1) := by decide +kernel
theorem kd_G_atPlace_3 : decode kb_G_atPlace 3 = .ok (.aload_n 0, 1) := by decide +kernel
theorem kd_G_atPlace_4 : decode kb_G_atPlace 4 = .ok (.getfield 18, 3) := by decide +kernel
theorem kd_G_atPlace_7 : decode kb_G_atPlace 7 = .ok (.if_icmp .ge 20, 3) := by decide +kernel
theorem kd_G_atPlace_10 : decode kb_G_atPlace 10 = .ok (.aload_n 0, 1) := by decide +kernel
theorem kd_G_atPlace_11 : decode kb_G_atPlace 11 = .ok (.iload_n 2, 1) := by decide +kernel
theorem kd_G_atPlace_12 : decode kb_G_atPlace 12 = .ok (.invokevirtual 38, 3) := by decide +kernel
theorem kd_G_atPlace_15 : decode kb_G_atPlace 15 = .ok (.iload_n 1, 1) := by decide +kernel
theorem kd_G_atPlace_16 : decode kb_G_atPlace 16 = .ok (.if_icmp .ne 5, 3) := by decide +kernel
theorem kd_G_atPlace_19 : decode kb_G_atPlace 19 = .ok (.iload_n 2, 1) := by decide +kernel
theorem kd_G_atPlace_20 : decode kb_G_atPlace 20 = .ok (.ireturn, 1) := by decide +kernel
theorem kd_G_atPlace_21 : decode kb_G_atPlace 21 = .ok (.iinc 2 1, 3) := by decide +kernel
theorem kd_G_atPlace_24 : decode kb_G_atPlace 24 = .ok (.goto (-22), 3) := by decide +kernel
theorem kd_G_atPlace_27 : decode kb_G_atPlace 27 = .ok (.iconst (-1), 1) := by decide +kernel
theorem kd_G_atPlace_28 : decode kb_G_atPlace 28 = .ok (.ireturn, 1) := by decide +kernel
theorem kd_G_placeOf_0 : decode kb_G_placeOf 0 = .ok (.iconst 0, 1) := by decide +kernel
theorem kd_G_placeOf_1 : decode kb_G_placeOf 1 = .ok (.istore_n 2, 1) := by decide +kernel
theorem kd_G_placeOf_2 : decode kb_G_placeOf 2 = .ok (.iconst 0, 1) := by decide +kernel
theorem kd_G_placeOf_3 : decode kb_G_placeOf 3 = .ok (.istore_n 3, 1) := by decide +kernel
theorem kd_G_placeOf_4 : decode kb_G_placeOf 4 = .ok (.iload_n 3, 1) := by decide +kernel
theorem kd_G_placeOf_5 : decode kb_G_placeOf 5 = .ok (.aload_n 0, 1) := by decide +kernel
theorem kd_G_placeOf_6 : decode kb_G_placeOf 6 = .ok (.getfield 18, 3) := by decide +kernel
theorem kd_G_placeOf_9 : decode kb_G_placeOf 9 = .ok (.if_icmp .ge 50, 3) := by decide +kernel
theorem kd_G_placeOf_12 : decode kb_G_placeOf 12 = .ok (.aload_n 0, 1) := by decide +kernel
theorem kd_G_placeOf_13 : decode kb_G_placeOf 13 = .ok (.getfield 11, 3) := by decide +kernel
theorem kd_G_placeOf_16 : decode kb_G_placeOf 16 = .ok (.iload_n 3, 1) := by decide +kernel
theorem kd_G_placeOf_17 : decode kb_G_placeOf 17 = .ok (.aaload, 1) := by decide +kernel
theorem kd_G_placeOf_18 : decode kb_G_placeOf 18 = .ok (.invokevirtual 42, 3) := by decide +kernel
theorem kd_G_placeOf_21 : decode kb_G_placeOf 21 = .ok (.aload_n 0, 1) := by decide +kernel
theorem kd_G_placeOf_22 : decode kb_G_placeOf 22 = .ok (.getfield 11, 3) := by decide +kernel
theorem kd_G_placeOf_25 : decode kb_G_placeOf 25 = .ok (.iload_n 1, 1) := by decide +kernel
theorem kd_G_placeOf_26 : decode kb_G_placeOf 26 = .ok (.aaload, 1) := by decide +kernel
theorem kd_G_placeOf_27 : decode kb_G_placeOf 27 = .ok (.invokevirtual 42, 3) := by decide +kernel
theorem kd_G_placeOf_30 : decode kb_G_placeOf 30 = .ok (.invokevirtual 46, 3) := by decide +kernel
theorem kd_G_placeOf_33 : decode kb_G_placeOf 33 = .ok (.istore 4, 2) := by decide +kernel
theorem kd_G_placeOf_35 : decode kb_G_placeOf 35 = .ok (.iload 4, 2) := by decide +kernel
theorem kd_G_placeOf_37 : decode kb_G_placeOf 37 = .ok (.ifCond .lt 13, 3) := by decide +kernel
theorem kd_G_placeOf_40 : decode kb_G_placeOf 40 = .ok (.iload 4, 2) := by decide +kernel
theorem kd_G_placeOf_42 : decode kb_G_placeOf 42 = .ok (.ifCond .ne 11, 3) := by decide +kernel
theorem kd_G_placeOf_45 : decode kb_G_placeOf 45 = .ok (.iload_n 3, 1) := by decide +kernel
theorem kd_G_placeOf_46 : decode kb_G_placeOf 46 = .ok (.iload_n 1, 1) := by decide +kernel
theorem kd_G_placeOf_47 : decode kb_G_placeOf 47 = .ok (.if_icmp .ge 6, 3) := by decide +kernel
theorem kd_G_placeOf_50 : decode kb_G_placeOf 50 = .ok (.iinc 2 1, 3) := by decide +kernel
theorem kd_G_placeOf_53 : decode kb_G_placeOf 53 = .ok (.iinc 3 1, 3) := by decide +kernel
theorem kd_G_placeOf_56 : decode kb_G_placeOf 56 = .ok (.goto (-52), 3) := by decide +kernel
theorem kd_G_placeOf_59 : decode kb_G_placeOf 59 = .ok (.iload_n 2, 1) := by decide +kernel
theorem kd_G_placeOf_60 : decode kb_G_placeOf 60 = .ok (.ireturn, 1) := by decide +kernel
theorem kd_G_get_0 : decode kb_G_get 0 = .ok (.aload_n 0, 1) := by decide +kernel
theorem kd_G_get_1 : decode kb_G_get 1 = .ok (.getfield 11, 3) := by decide +kernel
theorem kd_G_get_4 : decode kb_G_get 4 = .ok (.iload_n 1, 1) := by decide +kernel
theorem kd_G_get_5 : decode kb_G_get 5 = .ok (.aaload, 1) := by decide +kernel
theorem kd_G_get_6 : decode kb_G_get 6 = .ok (.areturn, 1) := by decide +kernel
theorem kh_G_init : ky_G_init.cls ≠ "java/lang/invoke/MethodHandle" ∧ ky_G_init.cls ≠ "java/lang/invoke/VarHandle" ∧ (parseMethodDescriptor ky_G_init.desc).map (fun d => d.parameters.length) = some 0 := by decide +kernel
theorem kh_G_firstLike : ky_G_firstLike.cls ≠ "java/lang/invoke/MethodHandle" ∧ ky_G_firstLike.cls ≠ "java/lang/invoke/VarHandle" ∧ (parseMethodDescriptor ky_G_firstLike.desc).map (fun d => d.parameters.length) = some 2 := by decide +kernel
theorem kh_G_isFull : ky_G_isFull.cls ≠ "java/lang/invoke/MethodHandle" ∧ ky_G_isFull.cls ≠ "java/lang/invoke/VarHandle" ∧ (parseMethodDescriptor ky_G_isFull.desc).map (fun d => d.parameters.length) = some 0 := by decide +kernel
theorem kh_G_holds : ky_G_holds.cls ≠ "java/lang/invoke/MethodHandle" ∧ ky_G_holds.cls ≠ "java/lang/invoke/VarHandle" ∧ (parseMethodDescriptor ky_G_holds.desc).map (fun d => d.parameters.length) = some 1 := by decide +kernel
theorem kh_G_keep : ky_G_keep.cls ≠ "java/lang/invoke/MethodHandle" ∧ ky_G_keep.cls ≠ "java/lang/invoke/VarHandle" ∧ (parseMethodDescriptor ky_G_keep.desc).map (fun d => d.parameters.length) = some 1 := by decide +kernel
theorem kh_G_count : ky_G_count.cls ≠ "java/lang/invoke/MethodHandle" ∧ ky_G_count.cls ≠ "java/lang/invoke/VarHandle" ∧ (parseMethodDescriptor ky_G_count.desc).map (fun d => d.parameters.length) = some 0 := by decide +kernel
theorem kh_G_has : ky_G_has.cls ≠ "java/lang/invoke/MethodHandle" ∧ ky_G_has.cls ≠ "java/lang/invoke/VarHandle" ∧ (parseMethodDescriptor ky_G_has.desc).map (fun d => d.parameters.length) = some 1 := by decide +kernel
theorem kh_G_drop : ky_G_drop.cls ≠ "java/lang/invoke/MethodHandle" ∧ ky_G_drop.cls ≠ "java/lang/invoke/VarHandle" ∧ (parseMethodDescriptor ky_G_drop.desc).map (fun d => d.parameters.length) = some 1 := by decide +kernel
theorem kh_G_atPlace : ky_G_atPlace.cls ≠ "java/lang/invoke/MethodHandle" ∧ ky_G_atPlace.cls ≠ "java/lang/invoke/VarHandle" ∧ (parseMethodDescriptor ky_G_atPlace.desc).map (fun d => d.parameters.length) = some 1 := by decide +kernel
theorem kh_G_placeOf : ky_G_placeOf.cls ≠ "java/lang/invoke/MethodHandle" ∧ ky_G_placeOf.cls ≠ "java/lang/invoke/VarHandle" ∧ (parseMethodDescriptor ky_G_placeOf.desc).map (fun d => d.parameters.length) = some 1 := by decide +kernel
theorem kh_G_get : ky_G_get.cls ≠ "java/lang/invoke/MethodHandle" ∧ ky_G_get.cls ≠ "java/lang/invoke/VarHandle" ∧ (parseMethodDescriptor ky_G_get.desc).map (fun d => d.parameters.length) = some 1 := by decide +kernel
