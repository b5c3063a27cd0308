theorem kd_L_init_0 : decode kb_L_init 0 = .ok (.aload_n 0, 1) := by decide +kernel
theorem kd_L_init_1 : decode kb_L_init 1 = .ok (.invokespecial 3, 3) := by decide +kernel
theorem kd_L_init_4 : decode kb_L_init 4 = .ok (.aload_n 0, 1) := by decide +kernel
theorem kd_L_init_5 : decode kb_L_init 5 = .ok (.bipush 48, 2) := by decide +kernel
theorem kd_L_init_7 : decode kb_L_init 7 = .ok (.newarray .int, 2) := by decide +kernel
theorem kd_L_init_9 : decode kb_L_init 9 = .ok (.putfield 9, 3) := by decide +kernel
theorem kd_L_init_12 : decode kb_L_init 12 = .ok (.aload_n 0, 1) := by decide +kernel
theorem kd_L_init_13 : decode kb_L_init 13 = .ok (.bipush 48, 2) := by decide +kernel
theorem kd_L_init_15 : decode kb_L_init 15 = .ok (.newarray .int, 2) := by decide +kernel
theorem kd_L_init_17 : decode kb_L_init 17 = .ok (.putfield 15, 3) := by decide +kernel
theorem kd_L_init_20 : decode kb_L_init 20 = .ok (.aload_n 0, 1) := by decide +kernel
theorem kd_L_init_21 : decode kb_L_init 21 = .ok (.iconst 0, 1) := by decide +kernel
theorem kd_L_init_22 : decode kb_L_init 22 = .ok (.putfield 18, 3) := by decide +kernel
theorem kd_L_init_25 : decode kb_L_init 25 = .ok (.return_, 1) := by decide +kernel
theorem kd_L_find_0 : decode kb_L_find 0 = .ok (.aload_n 0, 1) := by decide +kernel
theorem kd_L_find_1 : decode kb_L_find 1 = .ok (.iconst 0, 1) := by decide +kernel
theorem kd_L_find_2 : decode kb_L_find 2 = .ok (.putfield 18, 3) := by decide +kernel
theorem kd_L_find_5 : decode kb_L_find 5 = .ok (.iconst 0, 1) := by decide +kernel
theorem kd_L_find_6 : decode kb_L_find 6 = .ok (.istore_n 2, 1) := by decide +kernel
theorem kd_L_find_7 : decode kb_L_find 7 = .ok (.iload_n 2, 1) := by decide +kernel
theorem kd_L_find_8 : decode kb_L_find 8 = .ok (.aload_n 1, 1) := by decide +kernel
theorem kd_L_find_9 : decode kb_L_find 9 = .ok (.invokevirtual 22, 3) := by decide +kernel
theorem kd_L_find_12 : decode kb_L_find 12 = .ok (.if_icmp .ge 31, 3) := by decide +kernel
theorem kd_L_find_15 : decode kb_L_find 15 = .ok (.aload_n 1, 1) := by decide +kernel
theorem kd_L_find_16 : decode kb_L_find 16 = .ok (.iload_n 2, 1) := by decide +kernel
theorem kd_L_find_17 : decode kb_L_find 17 = .ok (.invokestatic 28, 3) := by decide +kernel
theorem kd_L_find_20 : decode kb_L_find 20 = .ok (.istore_n 3, 1) := by decide +kernel
theorem kd_L_find_21 : decode kb_L_find 21 = .ok (.iload_n 3, 1) := by decide +kernel
theorem kd_L_find_22 : decode kb_L_find 22 = .ok (.iload_n 2, 1) := by decide +kernel
theorem kd_L_find_23 : decode kb_L_find 23 = .ok (.if_icmp .le 9, 3) := by decide +kernel
theorem kd_L_find_26 : decode kb_L_find 26 = .ok (.aload_n 0, 1) := by decide +kernel
theorem kd_L_find_27 : decode kb_L_find 27 = .ok (.iload_n 2, 1) := by decide +kernel
theorem kd_L_find_28 : decode kb_L_find 28 = .ok (.iload_n 3, 1) := by decide +kernel
theorem kd_L_find_29 : decode kb_L_find 29 = .ok (.invokevirtual 32, 3) := by decide +kernel
theorem kd_L_find_32 : decode kb_L_find 32 = .ok (.iload_n 3, 1) := by decide +kernel
theorem kd_L_find_33 : decode kb_L_find 33 = .ok (.iload_n 2, 1) := by decide +kernel
theorem kd_L_find_34 : decode kb_L_find 34 = .ok (.iconst 1, 1) := by decide +kernel
theorem kd_L_find_35 : decode kb_L_find 35 = .ok (.iadd, 1) := by decide +kernel
theorem kd_L_find_36 : decode kb_L_find 36 = .ok (.invokestatic 36, 3) := by decide +kernel
theorem kd_L_find_39 : decode kb_L_find 39 = .ok (.istore_n 2, 1) := by decide +kernel
theorem kd_L_find_40 : decode kb_L_find 40 = .ok (.goto (-33), 3) := by decide +kernel
theorem kd_L_find_43 : decode kb_L_find 43 = .ok (.return_, 1) := by decide +kernel
theorem kd_L_identifierEnd_0 : decode kb_L_identifierEnd 0 = .ok (.aload_n 0, 1) := by decide +kernel
theorem kd_L_identifierEnd_1 : decode kb_L_identifierEnd 1 = .ok (.iload_n 1, 1) := by decide +kernel
theorem kd_L_identifierEnd_2 : decode kb_L_identifierEnd 2 = .ok (.invokevirtual 42, 3) := by decide +kernel
theorem kd_L_identifierEnd_5 : decode kb_L_identifierEnd 5 = .ok (.invokestatic 46, 3) := by decide +kernel
theorem kd_L_identifierEnd_8 : decode kb_L_identifierEnd 8 = .ok (.ifCond .ne 5, 3) := by decide +kernel
theorem kd_L_identifierEnd_11 : decode kb_L_identifierEnd 11 = .ok (.iload_n 1, 1) := by decide +kernel
theorem kd_L_identifierEnd_12 : decode kb_L_identifierEnd 12 = .ok (.ireturn, 1) := by decide +kernel
theorem kd_L_identifierEnd_13 : decode kb_L_identifierEnd 13 = .ok (.iload_n 1, 1) := by decide +kernel
theorem kd_L_identifierEnd_14 : decode kb_L_identifierEnd 14 = .ok (.iconst 1, 1) := by decide +kernel
theorem kd_L_identifierEnd_15 : decode kb_L_identifierEnd 15 = .ok (.iadd, 1) := by decide +kernel
theorem kd_L_identifierEnd_16 : decode kb_L_identifierEnd 16 = .ok (.istore_n 2, 1) := by decide +kernel
theorem kd_L_identifierEnd_17 : decode kb_L_identifierEnd 17 = .ok (.iload_n 2, 1) := by decide +kernel
theorem kd_L_identifierEnd_18 : decode kb_L_identifierEnd 18 = .ok (.aload_n 0, 1) := by decide +kernel
theorem kd_L_identifierEnd_19 : decode kb_L_identifierEnd 19 = .ok (.invokevirtual 22, 3) := by decide +kernel
theorem kd_L_identifierEnd_22 : decode kb_L_identifierEnd 22 = .ok (.if_icmp .ge 22, 3) := by decide +kernel
theorem kd_L_identifierEnd_25 : decode kb_L_identifierEnd 25 = .ok (.aload_n 0, 1) := by decide +kernel
theorem kd_L_identifierEnd_26 : decode kb_L_identifierEnd 26 = .ok (.iload_n 2, 1) := by decide +kernel
theorem kd_L_identifierEnd_27 : decode kb_L_identifierEnd 27 = .ok (.invokestatic 52, 3) := by decide +kernel
theorem kd_L_identifierEnd_30 : decode kb_L_identifierEnd 30 = .ok (.ifCond .le 14, 3) := by decide +kernel
theorem kd_L_identifierEnd_33 : decode kb_L_identifierEnd 33 = .ok (.iload_n 2, 1) := by decide +kernel
theorem kd_L_identifierEnd_34 : decode kb_L_identifierEnd 34 = .ok (.aload_n 0, 1) := by decide +kernel
theorem kd_L_identifierEnd_35 : decode kb_L_identifierEnd 35 = .ok (.iload_n 2, 1) := by decide +kernel
theorem kd_L_identifierEnd_36 : decode kb_L_identifierEnd 36 = .ok (.invokestatic 52, 3) := by decide +kernel
theorem kd_L_identifierEnd_39 : decode kb_L_identifierEnd 39 = .ok (.iadd, 1) := by decide +kernel
theorem kd_L_identifierEnd_40 : decode kb_L_identifierEnd 40 = .ok (.istore_n 2, 1) := by decide +kernel
theorem kd_L_identifierEnd_41 : decode kb_L_identifierEnd 41 = .ok (.goto (-24), 3) := by decide +kernel
theorem kd_L_identifierEnd_44 : decode kb_L_identifierEnd 44 = .ok (.iload_n 2, 1) := by decide +kernel
theorem kd_L_identifierEnd_45 : decode kb_L_identifierEnd 45 = .ok (.ireturn, 1) := by decide +kernel
theorem kd_L_pieceLength_0 : decode kb_L_pieceLength 0 = .ok (.aload_n 0, 1) := by decide +kernel
theorem kd_L_pieceLength_1 : decode kb_L_pieceLength 1 = .ok (.iload_n 1, 1) := by decide +kernel
theorem kd_L_pieceLength_2 : decode kb_L_pieceLength 2 = .ok (.invokevirtual 42, 3) := by decide +kernel
theorem kd_L_pieceLength_5 : decode kb_L_pieceLength 5 = .ok (.invokestatic 55, 3) := by decide +kernel
theorem kd_L_pieceLength_8 : decode kb_L_pieceLength 8 = .ok (.ifCond .eq 5, 3) := by decide +kernel
theorem kd_L_pieceLength_11 : decode kb_L_pieceLength 11 = .ok (.iconst 1, 1) := by decide +kernel
theorem kd_L_pieceLength_12 : decode kb_L_pieceLength 12 = .ok (.ireturn, 1) := by decide +kernel
theorem kd_L_pieceLength_13 : decode kb_L_pieceLength 13 = .ok (.aload_n 0, 1) := by decide +kernel
theorem kd_L_pieceLength_14 : decode kb_L_pieceLength 14 = .ok (.iload_n 1, 1) := by decide +kernel
theorem kd_L_pieceLength_15 : decode kb_L_pieceLength 15 = .ok (.invokevirtual 42, 3) := by decide +kernel
theorem kd_L_pieceLength_18 : decode kb_L_pieceLength 18 = .ok (.invokestatic 58, 3) := by decide +kernel
theorem kd_L_pieceLength_21 : decode kb_L_pieceLength 21 = .ok (.ifCond .eq 20, 3) := by decide +kernel
theorem kd_L_pieceLength_24 : decode kb_L_pieceLength 24 = .ok (.aload_n 0, 1) := by decide +kernel
theorem kd_L_pieceLength_25 : decode kb_L_pieceLength 25 = .ok (.iload_n 1, 1) := by decide +kernel
theorem kd_L_pieceLength_26 : decode kb_L_pieceLength 26 = .ok (.iconst 1, 1) := by decide +kernel
theorem kd_L_pieceLength_27 : decode kb_L_pieceLength 27 = .ok (.iadd, 1) := by decide +kernel
theorem kd_L_pieceLength_28 : decode kb_L_pieceLength 28 = .ok (.invokevirtual 42, 3) := by decide +kernel
theorem kd_L_pieceLength_31 : decode kb_L_pieceLength 31 = .ok (.invokestatic 55, 3) := by decide +kernel
theorem kd_L_pieceLength_34 : decode kb_L_pieceLength 34 = .ok (.ifCond .eq 7, 3) := by decide +kernel
theorem kd_L_pieceLength_37 : decode kb_L_pieceLength 37 = .ok (.iconst 2, 1) := by decide +kernel
theorem kd_L_pieceLength_38 : decode kb_L_pieceLength 38 = .ok (.goto 4, 3) := by decide +kernel
theorem kd_L_pieceLength_41 : decode kb_L_pieceLength 41 = .ok (.iconst 0, 1) := by decide +kernel
theorem kd_L_pieceLength_42 : decode kb_L_pieceLength 42 = .ok (.ireturn, 1) := by decide +kernel
theorem kd_L_note_0 : decode kb_L_note 0 = .ok (.aload_n 0, 1) := by decide +kernel
theorem kd_L_note_1 : decode kb_L_note 1 = .ok (.getfield 18, 3) := by decide +kernel
theorem kd_L_note_4 : decode kb_L_note 4 = .ok (.aload_n 0, 1) := by decide +kernel
theorem kd_L_note_5 : decode kb_L_note 5 = .ok (.getfield 9, 3) := by decide +kernel
theorem kd_L_note_8 : decode kb_L_note 8 = .ok (.arraylength, 1) := by decide +kernel
theorem kd_L_note_9 : decode kb_L_note 9 = .ok (.if_icmp .ge 33, 3) := by decide +kernel
theorem kd_L_note_12 : decode kb_L_note 12 = .ok (.aload_n 0, 1) := by decide +kernel
theorem kd_L_note_13 : decode kb_L_note 13 = .ok (.getfield 9, 3) := by decide +kernel
theorem kd_L_note_16 : decode kb_L_note 16 = .ok (.aload_n 0, 1) := by decide +kernel
theorem kd_L_note_17 : decode kb_L_note 17 = .ok (.getfield 18, 3) := by decide +kernel
theorem kd_L_note_20 : decode kb_L_note 20 = .ok (.iload_n 1, 1) := by decide +kernel
theorem kd_L_note_21 : decode kb_L_note 21 = .ok (.iastore, 1) := by decide +kernel
theorem kd_L_note_22 : decode kb_L_note 22 = .ok (.aload_n 0, 1) := by decide +kernel
theorem kd_L_note_23 : decode kb_L_note 23 = .ok (.getfield 15, 3) := by decide +kernel
theorem kd_L_note_26 : decode kb_L_note 26 = .ok (.aload_n 0, 1) := by decide +kernel
theorem kd_L_note_27 : decode kb_L_note 27 = .ok (.getfield 18, 3) := by decide +kernel
theorem kd_L_note_30 : decode kb_L_note 30 = .ok (.iload_n 2, 1) := by decide +kernel
theorem kd_L_note_31 : decode kb_L_note 31 = .ok (.iastore, 1) := by decide +kernel
theorem kd_L_note_32 : decode kb_L_note 32 = .ok (.aload_n 0, 1) := by decide +kernel
theorem kd_L_note_33 : decode kb_L_note 33 = .ok (.dup, 1) := by decide +kernel
theorem kd_L_note_34 : decode kb_L_note 34 = .ok (.getfield 18, 3) := by decide +kernel
theorem kd_L_note_37 : decode kb_L_note 37 = .ok (.iconst 1, 1) := by decide +kernel
theorem kd_L_note_38 : decode kb_L_note 38 = .ok (.iadd, 1) := by decide +kernel
theorem kd_L_note_39 : decode kb_L_note 39 = .ok (.putfield 18, 3) := by decide +kernel
theorem kd_L_note_42 : decode kb_L_note 42 = .ok (.return_, 1) := by decide +kernel
theorem kd_L_count_0 : decode kb_L_count 0 = .ok (.aload_n 0, 1) := by decide +kernel
theorem kd_L_count_1 : decode kb_L_count 1 = .ok (.getfield 18, 3) := by decide +kernel
theorem kd_L_count_4 : decode kb_L_count 4 = .ok (.ireturn, 1) := by decide +kernel
theorem kd_L_begin_0 : decode kb_L_begin 0 = .ok (.iload_n 1, 1) := by decide +kernel
theorem kd_L_begin_1 : decode kb_L_begin 1 = .ok (.ifCond .lt 11, 3) := by decide +kernel
theorem kd_L_begin_4 : decode kb_L_begin 4 = .ok (.iload_n 1, 1) := by decide +kernel
theorem kd_L_begin_5 : decode kb_L_begin 5 = .ok (.aload_n 0, 1) := by decide +kernel
theorem kd_L_begin_6 : decode kb_L_begin 6 = .ok (.getfield 18, 3) := by decide +kernel
theorem kd_L_begin_9 : decode kb_L_begin 9 = .ok (.if_icmp .lt 7, 3) := by decide +kernel
theorem kd_L_begin_12 : decode kb_L_begin 12 = .ok (.iconst 0, 1) := by decide +kernel
theorem kd_L_begin_13 : decode kb_L_begin 13 = .ok (.goto 9, 3) := by decide +kernel
theorem kd_L_begin_16 : decode kb_L_begin 16 = .ok (.aload_n 0, 1) := by decide +kernel
theorem kd_L_begin_17 : decode kb_L_begin 17 = .ok (.getfield 9, 3) := by decide +kernel
theorem kd_L_begin_20 : decode kb_L_begin 20 = .ok (.iload_n 1, 1) := by decide +kernel
theorem kd_L_begin_21 : decode kb_L_begin 21 = .ok (.iaload, 1) := by decide +kernel
theorem kd_L_begin_22 : decode kb_L_begin 22 = .ok (.ireturn, 1) := by decide +kernel
theorem kd_L_end_0 : decode kb_L_end 0 = .ok (.iload_n 1, 1) := by decide +kernel
theorem kd_L_end_1 : decode kb_L_end 1 = .ok (.ifCond .lt 11, 3) := by decide +kernel
theorem kd_L_end_4 : decode kb_L_end 4 = .ok (.iload_n 1, 1) := by decide +kernel
theorem kd_L_end_5 : decode kb_L_end 5 = .ok (.aload_n 0, 1) := by decide +kernel
theorem kd_L_end_6 : decode kb_L_end 6 = .ok (.getfield 18, 3) := by decide +kernel
theorem kd_L_end_9 : decode kb_L_end 9 = .ok (.if_icmp .lt 7, 3) := by decide +kernel
theorem kd_L_end_12 : decode kb_L_end 12 = .ok (.iconst 0, 1) := by decide +kernel
theorem kd_L_end_13 : decode kb_L_end 13 = .ok (.goto 9, 3) := by decide +kernel
theorem kd_L_end_16 : decode kb_L_end 16 = .ok (.aload_n 0, 1) := by decide +kernel
theorem kd_L_end_17 : decode kb_L_end 17 = .ok (.getfield 15, 3) := by decide +kernel
theorem kd_L_end_20 : decode kb_L_end 20 = .ok (.iload_n 1, 1) := by decide +kernel
theorem kd_L_end_21 : decode kb_L_end 21 = .ok (.iaload, 1) := by decide +kernel
theorem kd_L_end_22 : decode kb_L_end 22 = .ok (.ireturn, 1) := by decide +kernel
theorem kd_L_isIdentifier_0 : decode kb_L_isIdentifier 0 = .ok (.aload_n 0, 1) := by decide +kernel
theorem kd_L_isIdentifier_1 : decode kb_L_isIdentifier 1 = .ok (.invokevirtual 22, 3) := by decide +kernel
theorem kd_L_isIdentifier_4 : decode kb_L_isIdentifier 4 = .ok (.ifCond .le 19, 3) := by decide +kernel
theorem kd_L_isIdentifier_7 : decode kb_L_isIdentifier 7 = .ok (.aload_n 0, 1) := by decide +kernel
theorem kd_L_isIdentifier_8 : decode kb_L_isIdentifier 8 = .ok (.iconst 0, 1) := by decide +kernel
theorem kd_L_isIdentifier_9 : decode kb_L_isIdentifier 9 = .ok (.invokestatic 28, 3) := by decide +kernel
theorem kd_L_isIdentifier_12 : decode kb_L_isIdentifier 12 = .ok (.aload_n 0, 1) := by decide +kernel
theorem kd_L_isIdentifier_13 : decode kb_L_isIdentifier 13 = .ok (.invokevirtual 22, 3) := by decide +kernel
theorem kd_L_isIdentifier_16 : decode kb_L_isIdentifier 16 = .ok (.if_icmp .ne 7, 3) := by decide +kernel
theorem kd_L_isIdentifier_19 : decode kb_L_isIdentifier 19 = .ok (.iconst 1, 1) := by decide +kernel
theorem kd_L_isIdentifier_20 : decode kb_L_isIdentifier 20 = .ok (.goto 4, 3) := by decide +kernel
theorem kd_L_isIdentifier_23 : decode kb_L_isIdentifier 23 = .ok (.iconst 0, 1) := by decide +kernel
theorem kd_L_isIdentifier_24 : decode kb_L_isIdentifier 24 = .ok (.ireturn, 1) := by decide +kernel
theorem kh_L_init : ky_L_init.cls ≠ "java/lang/invoke/MethodHandle" ∧ ky_L_init.cls ≠ "java/lang/invoke/VarHandle" ∧ (parseMethodDescriptor ky_L_init.desc).map (fun d => d.parameters.length) = some 0 := by decide +kernel
theorem kh_L_find : ky_L_find.cls ≠ "java/lang/invoke/MethodHandle" ∧ ky_L_find.cls ≠ "java/lang/invoke/VarHandle" ∧ (parseMethodDescriptor ky_L_find.desc).map (fun d => d.parameters.length) = some 1 := by decide +kernel
theorem kh_L_identifierEnd : ky_L_identifierEnd.cls ≠ "java/lang/invoke/MethodHandle" ∧ ky_L_identifierEnd.cls ≠ "java/lang/invoke/VarHandle" ∧ (parseMethodDescriptor ky_L_identifierEnd.desc).map (fun d => d.parameters.length) = some 2 := by decide +kernel
theorem kh_L_pieceLength : ky_L_pieceLength.cls ≠ "java/lang/invoke/MethodHandle" ∧ ky_L_pieceLength.cls ≠ "java/lang/invoke/VarHandle" ∧ (parseMethodDescriptor ky_L_pieceLength.desc).map (fun d => d.parameters.length) = some 2 := by decide +kernel
theorem kh_L_note : ky_L_note.cls ≠ "java/lang/invoke/MethodHandle" ∧ ky_L_note.cls ≠ "java/lang/invoke/VarHandle" ∧ (parseMethodDescriptor ky_L_note.desc).map (fun d => d.parameters.length) = some 2 := by decide +kernel
theorem kh_L_count : ky_L_count.cls ≠ "java/lang/invoke/MethodHandle" ∧ ky_L_count.cls ≠ "java/lang/invoke/VarHandle" ∧ (parseMethodDescriptor ky_L_count.desc).map (fun d => d.parameters.length) = some 0 := by decide +kernel
theorem kh_L_begin : ky_L_begin.cls ≠ "java/lang/invoke/MethodHandle" ∧ ky_L_begin.cls ≠ "java/lang/invoke/VarHandle" ∧ (parseMethodDescriptor ky_L_begin.desc).map (fun d => d.parameters.length) = some 1 := by decide +kernel
theorem kh_L_end : ky_L_end.cls ≠ "java/lang/invoke/MethodHandle" ∧ ky_L_end.cls ≠ "java/lang/invoke/VarHandle" ∧ (parseMethodDescriptor ky_L_end.desc).map (fun d => d.parameters.length) = some 1 := by decide +kernel
theorem kh_L_isIdentifier : ky_L_isIdentifier.cls ≠ "java/lang/invoke/MethodHandle" ∧ ky_L_isIdentifier.cls ≠ "java/lang/invoke/VarHandle" ∧ (parseMethodDescriptor ky_L_isIdentifier.desc).map (fun d => d.parameters.length) = some 1 := by decide +kernel
