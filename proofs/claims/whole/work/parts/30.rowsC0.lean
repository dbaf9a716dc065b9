theorem dX12_init_0 : decode cX12_init 0 = .ok (.aload_n 0, 1) := by decide +kernel
theorem dX12_init_1 : decode cX12_init 1 = .ok (.invokespecial 1, 3) := by decide +kernel
theorem dX12_init_4 : decode cX12_init 4 = .ok (.aload_n 0, 1) := by decide +kernel
theorem dX12_init_5 : decode cX12_init 5 = .ok (.bipush 105, 2) := by decide +kernel
theorem dX12_init_7 : decode cX12_init 7 = .ok (.newarray .int, 2) := by decide +kernel
theorem dX12_init_9 : decode cX12_init 9 = .ok (.putfield 7, 3) := by decide +kernel
theorem dX12_init_12 : decode cX12_init 12 = .ok (.aload_n 0, 1) := by decide +kernel
theorem dX12_init_13 : decode cX12_init 13 = .ok (.sipush 210, 3) := by decide +kernel
theorem dX12_init_16 : decode cX12_init 16 = .ok (.newarray .int, 2) := by decide +kernel
theorem dX12_init_18 : decode cX12_init 18 = .ok (.putfield 13, 3) := by decide +kernel
theorem dX12_init_21 : decode cX12_init 21 = .ok (.aload_n 0, 1) := by decide +kernel
theorem dX12_init_22 : decode cX12_init 22 = .ok (.iconst 2, 1) := by decide +kernel
theorem dX12_init_23 : decode cX12_init 23 = .ok (.newarray .boolean, 2) := by decide +kernel
theorem dX12_init_25 : decode cX12_init 25 = .ok (.putfield 16, 3) := by decide +kernel
theorem dX12_init_28 : decode cX12_init 28 = .ok (.aload_n 0, 1) := by decide +kernel
theorem dX12_init_29 : decode cX12_init 29 = .ok (.iconst 3, 1) := by decide +kernel
theorem dX12_init_30 : decode cX12_init 30 = .ok (.newarray .int, 2) := by decide +kernel
theorem dX12_init_32 : decode cX12_init 32 = .ok (.putfield 20, 3) := by decide +kernel
theorem dX12_init_35 : decode cX12_init 35 = .ok (.aload_n 0, 1) := by decide +kernel
theorem dX12_init_36 : decode cX12_init 36 = .ok (.lconst 1, 1) := by decide +kernel
theorem dX12_init_37 : decode cX12_init 37 = .ok (.putfield 23, 3) := by decide +kernel
theorem dX12_init_40 : decode cX12_init 40 = .ok (.aload_n 0, 1) := by decide +kernel
theorem dX12_init_41 : decode cX12_init 41 = .ok (.bipush 6, 2) := by decide +kernel
theorem dX12_init_43 : decode cX12_init 43 = .ok (.newarray .int, 2) := by decide +kernel
theorem dX12_init_45 : decode cX12_init 45 = .ok (.putfield 27, 3) := by decide +kernel
theorem dX12_init_48 : decode cX12_init 48 = .ok (.aload_n 0, 1) := by decide +kernel
theorem dX12_init_49 : decode cX12_init 49 = .ok (.bipush 6, 2) := by decide +kernel
theorem dX12_init_51 : decode cX12_init 51 = .ok (.newarray .int, 2) := by decide +kernel
theorem dX12_init_53 : decode cX12_init 53 = .ok (.putfield 30, 3) := by decide +kernel
theorem dX12_init_56 : decode cX12_init 56 = .ok (.aload_n 0, 1) := by decide +kernel
theorem dX12_init_57 : decode cX12_init 57 = .ok (.bipush 6, 2) := by decide +kernel
theorem dX12_init_59 : decode cX12_init 59 = .ok (.newarray .int, 2) := by decide +kernel
theorem dX12_init_61 : decode cX12_init 61 = .ok (.putfield 33, 3) := by decide +kernel
theorem dX12_init_64 : decode cX12_init 64 = .ok (.aload_n 0, 1) := by decide +kernel
theorem dX12_init_65 : decode cX12_init 65 = .ok (.sipush 150, 3) := by decide +kernel
theorem dX12_init_68 : decode cX12_init 68 = .ok (.newarray .int, 2) := by decide +kernel
theorem dX12_init_70 : decode cX12_init 70 = .ok (.putfield 36, 3) := by decide +kernel
theorem dX12_init_73 : decode cX12_init 73 = .ok (.aload_n 0, 1) := by decide +kernel
theorem dX12_init_74 : decode cX12_init 74 = .ok (.bipush 57, 2) := by decide +kernel
theorem dX12_init_76 : decode cX12_init 76 = .ok (.newarray .int, 2) := by decide +kernel
theorem dX12_init_78 : decode cX12_init 78 = .ok (.putfield 39, 3) := by decide +kernel
theorem dX12_init_81 : decode cX12_init 81 = .ok (.aload_n 0, 1) := by decide +kernel
theorem dX12_init_82 : decode cX12_init 82 = .ok (.iconst 3, 1) := by decide +kernel
theorem dX12_init_83 : decode cX12_init 83 = .ok (.newarray .int, 2) := by decide +kernel
theorem dX12_init_85 : decode cX12_init 85 = .ok (.putfield 42, 3) := by decide +kernel
theorem dX12_init_88 : decode cX12_init 88 = .ok (.aload_n 0, 1) := by decide +kernel
theorem dX12_init_89 : decode cX12_init 89 = .ok (.getfield 7, 3) := by decide +kernel
theorem dX12_init_92 : decode cX12_init 92 = .ok (.iconst 0, 1) := by decide +kernel
theorem dX12_init_93 : decode cX12_init 93 = .ok (.invokestatic 45, 3) := by decide +kernel
theorem dX12_init_96 : decode cX12_init 96 = .ok (.return_, 1) := by decide +kernel
theorem dX12_in_0 : decode cX12_in 0 = .ok (.lload_n 0, 1) := by decide +kernel
theorem dX12_in_1 : decode cX12_in 1 = .ok (.lload_n 2, 1) := by decide +kernel
theorem dX12_in_2 : decode cX12_in 2 = .ok (.lcmp, 1) := by decide +kernel
theorem dX12_in_3 : decode cX12_in 3 = .ok (.ifCond .lt 14, 3) := by decide +kernel
theorem dX12_in_6 : decode cX12_in 6 = .ok (.lload_n 0, 1) := by decide +kernel
theorem dX12_in_7 : decode cX12_in 7 = .ok (.lload 4, 2) := by decide +kernel
theorem dX12_in_9 : decode cX12_in 9 = .ok (.lcmp, 1) := by decide +kernel
theorem dX12_in_10 : decode cX12_in 10 = .ok (.ifCond .gt 7, 3) := by decide +kernel
theorem dX12_in_13 : decode cX12_in 13 = .ok (.iconst 1, 1) := by decide +kernel
theorem dX12_in_14 : decode cX12_in 14 = .ok (.goto 4, 3) := by decide +kernel
theorem dX12_in_17 : decode cX12_in 17 = .ok (.iconst 0, 1) := by decide +kernel
theorem dX12_in_18 : decode cX12_in 18 = .ok (.ireturn, 1) := by decide +kernel
theorem dX12_bad_0 : decode cX12_bad 0 = .ok (.aload_n 0, 1) := by decide +kernel
theorem dX12_bad_1 : decode cX12_bad 1 = .ok (.getfield 20, 3) := by decide +kernel
theorem dX12_bad_4 : decode cX12_bad 4 = .ok (.iconst 0, 1) := by decide +kernel
theorem dX12_bad_5 : decode cX12_bad 5 = .ok (.dup2, 1) := by decide +kernel
theorem dX12_bad_6 : decode cX12_bad 6 = .ok (.iaload, 1) := by decide +kernel
theorem dX12_bad_7 : decode cX12_bad 7 = .ok (.iconst 1, 1) := by decide +kernel
theorem dX12_bad_8 : decode cX12_bad 8 = .ok (.iadd, 1) := by decide +kernel
theorem dX12_bad_9 : decode cX12_bad 9 = .ok (.iastore, 1) := by decide +kernel
theorem dX12_bad_10 : decode cX12_bad 10 = .ok (.iload_n 1, 1) := by decide +kernel
theorem dX12_bad_11 : decode cX12_bad 11 = .ok (.ireturn, 1) := by decide +kernel
theorem dX12_no_0 : decode cX12_no 0 = .ok (.aload_n 0, 1) := by decide +kernel
theorem dX12_no_1 : decode cX12_no 1 = .ok (.getfield 20, 3) := by decide +kernel
theorem dX12_no_4 : decode cX12_no 4 = .ok (.iconst 1, 1) := by decide +kernel
theorem dX12_no_5 : decode cX12_no 5 = .ok (.dup2, 1) := by decide +kernel
theorem dX12_no_6 : decode cX12_no 6 = .ok (.iaload, 1) := by decide +kernel
theorem dX12_no_7 : decode cX12_no 7 = .ok (.iconst 1, 1) := by decide +kernel
theorem dX12_no_8 : decode cX12_no 8 = .ok (.iadd, 1) := by decide +kernel
theorem dX12_no_9 : decode cX12_no 9 = .ok (.iastore, 1) := by decide +kernel
theorem dX12_no_10 : decode cX12_no 10 = .ok (.bipush (-3), 2) := by decide +kernel
theorem dX12_no_12 : decode cX12_no 12 = .ok (.ireturn, 1) := by decide +kernel
theorem dX12_full_0 : decode cX12_full 0 = .ok (.aload_n 0, 1) := by decide +kernel
theorem dX12_full_1 : decode cX12_full 1 = .ok (.getfield 20, 3) := by decide +kernel
theorem dX12_full_4 : decode cX12_full 4 = .ok (.iconst 2, 1) := by decide +kernel
theorem dX12_full_5 : decode cX12_full 5 = .ok (.dup2, 1) := by decide +kernel
theorem dX12_full_6 : decode cX12_full 6 = .ok (.iaload, 1) := by decide +kernel
theorem dX12_full_7 : decode cX12_full 7 = .ok (.iconst 1, 1) := by decide +kernel
theorem dX12_full_8 : decode cX12_full 8 = .ok (.iadd, 1) := by decide +kernel
theorem dX12_full_9 : decode cX12_full 9 = .ok (.iastore, 1) := by decide +kernel
theorem dX12_full_10 : decode cX12_full 10 = .ok (.bipush (-4), 2) := by decide +kernel
theorem dX12_full_12 : decode cX12_full 12 = .ok (.ireturn, 1) := by decide +kernel
theorem dX12_bits_0 : decode cX12_bits 0 = .ok (.iconst 0, 1) := by decide +kernel
theorem dX12_bits_1 : decode cX12_bits 1 = .ok (.istore_n 1, 1) := by decide +kernel
theorem dX12_bits_2 : decode cX12_bits 2 = .ok (.iload_n 0, 1) := by decide +kernel
theorem dX12_bits_3 : decode cX12_bits 3 = .ok (.istore_n 2, 1) := by decide +kernel
theorem dX12_bits_4 : decode cX12_bits 4 = .ok (.iload_n 2, 1) := by decide +kernel
theorem dX12_bits_5 : decode cX12_bits 5 = .ok (.ifCond .le 16, 3) := by decide +kernel
theorem dX12_bits_8 : decode cX12_bits 8 = .ok (.iload_n 1, 1) := by decide +kernel
theorem dX12_bits_9 : decode cX12_bits 9 = .ok (.iload_n 2, 1) := by decide +kernel
theorem dX12_bits_10 : decode cX12_bits 10 = .ok (.iconst 1, 1) := by decide +kernel
theorem dX12_bits_11 : decode cX12_bits 11 = .ok (.iand, 1) := by decide +kernel
theorem dX12_bits_12 : decode cX12_bits 12 = .ok (.iadd, 1) := by decide +kernel
theorem dX12_bits_13 : decode cX12_bits 13 = .ok (.istore_n 1, 1) := by decide +kernel
theorem dX12_bits_14 : decode cX12_bits 14 = .ok (.iload_n 2, 1) := by decide +kernel
theorem dX12_bits_15 : decode cX12_bits 15 = .ok (.iconst 1, 1) := by decide +kernel
theorem dX12_bits_16 : decode cX12_bits 16 = .ok (.ishr, 1) := by decide +kernel
theorem dX12_bits_17 : decode cX12_bits 17 = .ok (.istore_n 2, 1) := by decide +kernel
theorem dX12_bits_18 : decode cX12_bits 18 = .ok (.goto (-14), 3) := by decide +kernel
theorem dX12_bits_21 : decode cX12_bits 21 = .ok (.iload_n 1, 1) := by decide +kernel
theorem dX12_bits_22 : decode cX12_bits 22 = .ok (.ireturn, 1) := by decide +kernel
theorem dX12_has_0 : decode cX12_has 0 = .ok (.iload_n 0, 1) := by decide +kernel
theorem dX12_has_1 : decode cX12_has 1 = .ok (.iload_n 1, 1) := by decide +kernel
theorem dX12_has_2 : decode cX12_has 2 = .ok (.ishr, 1) := by decide +kernel
theorem dX12_has_3 : decode cX12_has 3 = .ok (.iconst 1, 1) := by decide +kernel
theorem dX12_has_4 : decode cX12_has 4 = .ok (.iand, 1) := by decide +kernel
theorem dX12_has_5 : decode cX12_has 5 = .ok (.iconst 1, 1) := by decide +kernel
theorem dX12_has_6 : decode cX12_has 6 = .ok (.if_icmp .ne 7, 3) := by decide +kernel
theorem dX12_has_9 : decode cX12_has 9 = .ok (.iconst 1, 1) := by decide +kernel
theorem dX12_has_10 : decode cX12_has 10 = .ok (.goto 4, 3) := by decide +kernel
theorem dX12_has_13 : decode cX12_has 13 = .ok (.iconst 0, 1) := by decide +kernel
theorem dX12_has_14 : decode cX12_has 14 = .ok (.ireturn, 1) := by decide +kernel
theorem dX12_begin_0 : decode cX12_begin 0 = .ok (.iconst 0, 1) := by decide +kernel
theorem dX12_begin_1 : decode cX12_begin 1 = .ok (.istore_n 2, 1) := by decide +kernel
theorem dX12_begin_2 : decode cX12_begin 2 = .ok (.iload_n 2, 1) := by decide +kernel
theorem dX12_begin_3 : decode cX12_begin 3 = .ok (.bipush 57, 2) := by decide +kernel
theorem dX12_begin_5 : decode cX12_begin 5 = .ok (.if_icmp .ge 13, 3) := by decide +kernel
theorem dX12_begin_8 : decode cX12_begin 8 = .ok (.aload_n 0, 1) := by decide +kernel
theorem dX12_begin_9 : decode cX12_begin 9 = .ok (.iload_n 2, 1) := by decide +kernel
theorem dX12_begin_10 : decode cX12_begin 10 = .ok (.iconst 0, 1) := by decide +kernel
theorem dX12_begin_11 : decode cX12_begin 11 = .ok (.iastore, 1) := by decide +kernel
theorem dX12_begin_12 : decode cX12_begin 12 = .ok (.iinc 2 1, 3) := by decide +kernel
theorem dX12_begin_15 : decode cX12_begin 15 = .ok (.goto (-13), 3) := by decide +kernel
theorem dX12_begin_18 : decode cX12_begin 18 = .ok (.aload_n 0, 1) := by decide +kernel
theorem dX12_begin_19 : decode cX12_begin 19 = .ok (.bipush 6, 2) := by decide +kernel
theorem dX12_begin_21 : decode cX12_begin 21 = .ok (.iload_n 1, 1) := by decide +kernel
theorem dX12_begin_22 : decode cX12_begin 22 = .ok (.iastore, 1) := by decide +kernel
theorem dX12_begin_23 : decode cX12_begin 23 = .ok (.return_, 1) := by decide +kernel
theorem dX12_many_0 : decode cX12_many 0 = .ok (.aload_n 0, 1) := by decide +kernel
theorem dX12_many_1 : decode cX12_many 1 = .ok (.getfield 7, 3) := by decide +kernel
theorem dX12_many_4 : decode cX12_many 4 = .ok (.iconst 0, 1) := by decide +kernel
theorem dX12_many_5 : decode cX12_many 5 = .ok (.iaload, 1) := by decide +kernel
theorem dX12_many_6 : decode cX12_many 6 = .ok (.ireturn, 1) := by decide +kernel
theorem dX12_isDeputy_0 : decode cX12_isDeputy 0 = .ok (.iload_n 1, 1) := by decide +kernel
theorem dX12_isDeputy_1 : decode cX12_isDeputy 1 = .ok (.i2l, 1) := by decide +kernel
theorem dX12_isDeputy_2 : decode cX12_isDeputy 2 = .ok (.lconst 0, 1) := by decide +kernel
theorem dX12_isDeputy_3 : decode cX12_isDeputy 3 = .ok (.aload_n 0, 1) := by decide +kernel
theorem dX12_isDeputy_4 : decode cX12_isDeputy 4 = .ok (.invokevirtual 49, 3) := by decide +kernel
theorem dX12_isDeputy_7 : decode cX12_isDeputy 7 = .ok (.iconst 1, 1) := by decide +kernel
theorem dX12_isDeputy_8 : decode cX12_isDeputy 8 = .ok (.isub, 1) := by decide +kernel
theorem dX12_isDeputy_9 : decode cX12_isDeputy 9 = .ok (.i2l, 1) := by decide +kernel
theorem dX12_isDeputy_10 : decode cX12_isDeputy 10 = .ok (.invokestatic 53, 3) := by decide +kernel
theorem dX12_isDeputy_13 : decode cX12_isDeputy 13 = .ok (.ireturn, 1) := by decide +kernel
theorem dX12_isBundle_0 : decode cX12_isBundle 0 = .ok (.iload_n 0, 1) := by decide +kernel
theorem dX12_isBundle_1 : decode cX12_isBundle 1 = .ok (.i2l, 1) := by decide +kernel
theorem dX12_isBundle_2 : decode cX12_isBundle 2 = .ok (.lconst 0, 1) := by decide +kernel
theorem dX12_isBundle_3 : decode cX12_isBundle 3 = .ok (.ldc2_w 57, 3) := by decide +kernel
theorem dX12_isBundle_6 : decode cX12_isBundle 6 = .ok (.invokestatic 53, 3) := by decide +kernel
theorem dX12_isBundle_9 : decode cX12_isBundle 9 = .ok (.ireturn, 1) := by decide +kernel
theorem dX12_get_0 : decode cX12_get 0 = .ok (.aload_n 0, 1) := by decide +kernel
theorem dX12_get_1 : decode cX12_get 1 = .ok (.getfield 7, 3) := by decide +kernel
theorem dX12_get_4 : decode cX12_get 4 = .ok (.bipush 9, 2) := by decide +kernel
theorem dX12_get_6 : decode cX12_get 6 = .ok (.iconst 4, 1) := by decide +kernel
theorem dX12_get_7 : decode cX12_get 7 = .ok (.iload_n 1, 1) := by decide +kernel
theorem dX12_get_8 : decode cX12_get 8 = .ok (.imul, 1) := by decide +kernel
theorem dX12_get_9 : decode cX12_get 9 = .ok (.iadd, 1) := by decide +kernel
theorem dX12_get_10 : decode cX12_get 10 = .ok (.iload_n 2, 1) := by decide +kernel
theorem dX12_get_11 : decode cX12_get 11 = .ok (.iadd, 1) := by decide +kernel
theorem dX12_get_12 : decode cX12_get 12 = .ok (.iaload, 1) := by decide +kernel
theorem dX12_get_13 : decode cX12_get 13 = .ok (.ireturn, 1) := by decide +kernel
theorem dX12_house_0 : decode cX12_house 0 = .ok (.iload_n 1, 1) := by decide +kernel
theorem dX12_house_1 : decode cX12_house 1 = .ok (.i2l, 1) := by decide +kernel
theorem dX12_house_2 : decode cX12_house 2 = .ok (.lconst 0, 1) := by decide +kernel
theorem dX12_house_3 : decode cX12_house 3 = .ok (.ldc2_w 59, 3) := by decide +kernel
theorem dX12_house_6 : decode cX12_house 6 = .ok (.invokestatic 53, 3) := by decide +kernel
theorem dX12_house_9 : decode cX12_house 9 = .ok (.ifCond .ne 10, 3) := by decide +kernel
theorem dX12_house_12 : decode cX12_house 12 = .ok (.aload_n 0, 1) := by decide +kernel
theorem dX12_house_13 : decode cX12_house 13 = .ok (.bipush (-2), 2) := by decide +kernel
theorem dX12_house_15 : decode cX12_house 15 = .ok (.invokevirtual 61, 3) := by decide +kernel
theorem dX12_house_18 : decode cX12_house 18 = .ok (.ireturn, 1) := by decide +kernel
theorem dX12_house_19 : decode cX12_house 19 = .ok (.aload_n 0, 1) := by decide +kernel
theorem dX12_house_20 : decode cX12_house 20 = .ok (.invokevirtual 49, 3) := by decide +kernel
theorem dX12_house_23 : decode cX12_house 23 = .ok (.istore_n 2, 1) := by decide +kernel
theorem dX12_house_24 : decode cX12_house 24 = .ok (.aload_n 0, 1) := by decide +kernel
theorem dX12_house_25 : decode cX12_house 25 = .ok (.getfield 7, 3) := by decide +kernel
theorem dX12_house_28 : decode cX12_house 28 = .ok (.iload_n 1, 1) := by decide +kernel
theorem dX12_house_29 : decode cX12_house 29 = .ok (.invokestatic 45, 3) := by decide +kernel
theorem dX12_house_32 : decode cX12_house 32 = .ok (.iload_n 2, 1) := by decide +kernel
theorem dX12_house_33 : decode cX12_house 33 = .ok (.ireturn, 1) := by decide +kernel
theorem dX12_layDeputy_0 : decode cX12_layDeputy 0 = .ok (.bipush 9, 2) := by decide +kernel
theorem dX12_layDeputy_2 : decode cX12_layDeputy 2 = .ok (.iconst 4, 1) := by decide +kernel
theorem dX12_layDeputy_3 : decode cX12_layDeputy 3 = .ok (.aload_n 0, 1) := by decide +kernel
theorem dX12_layDeputy_4 : decode cX12_layDeputy 4 = .ok (.iconst 0, 1) := by decide +kernel
theorem dX12_layDeputy_5 : decode cX12_layDeputy 5 = .ok (.iaload, 1) := by decide +kernel
theorem dX12_layDeputy_6 : decode cX12_layDeputy 6 = .ok (.imul, 1) := by decide +kernel
theorem dX12_layDeputy_7 : decode cX12_layDeputy 7 = .ok (.iadd, 1) := by decide +kernel
theorem dX12_layDeputy_8 : decode cX12_layDeputy 8 = .ok (.istore 5, 2) := by decide +kernel
theorem dX12_layDeputy_10 : decode cX12_layDeputy 10 = .ok (.aload_n 0, 1) := by decide +kernel
theorem dX12_layDeputy_11 : decode cX12_layDeputy 11 = .ok (.iload 5, 2) := by decide +kernel
theorem dX12_layDeputy_13 : decode cX12_layDeputy 13 = .ok (.iconst 0, 1) := by decide +kernel
theorem dX12_layDeputy_14 : decode cX12_layDeputy 14 = .ok (.iadd, 1) := by decide +kernel
theorem dX12_layDeputy_15 : decode cX12_layDeputy 15 = .ok (.iload_n 1, 1) := by decide +kernel
theorem dX12_layDeputy_16 : decode cX12_layDeputy 16 = .ok (.iastore, 1) := by decide +kernel
theorem dX12_layDeputy_17 : decode cX12_layDeputy 17 = .ok (.aload_n 0, 1) := by decide +kernel
theorem dX12_layDeputy_18 : decode cX12_layDeputy 18 = .ok (.iload 5, 2) := by decide +kernel
theorem dX12_layDeputy_20 : decode cX12_layDeputy 20 = .ok (.iconst 1, 1) := by decide +kernel
theorem dX12_layDeputy_21 : decode cX12_layDeputy 21 = .ok (.iadd, 1) := by decide +kernel
theorem dX12_layDeputy_22 : decode cX12_layDeputy 22 = .ok (.iload_n 2, 1) := by decide +kernel
theorem dX12_layDeputy_23 : decode cX12_layDeputy 23 = .ok (.iastore, 1) := by decide +kernel
theorem dX12_layDeputy_24 : decode cX12_layDeputy 24 = .ok (.aload_n 0, 1) := by decide +kernel
theorem dX12_layDeputy_25 : decode cX12_layDeputy 25 = .ok (.iload 5, 2) := by decide +kernel
theorem dX12_layDeputy_27 : decode cX12_layDeputy 27 = .ok (.iconst 2, 1) := by decide +kernel
theorem dX12_layDeputy_28 : decode cX12_layDeputy 28 = .ok (.iadd, 1) := by decide +kernel
theorem dX12_layDeputy_29 : decode cX12_layDeputy 29 = .ok (.iload_n 3, 1) := by decide +kernel
theorem dX12_layDeputy_30 : decode cX12_layDeputy 30 = .ok (.iastore, 1) := by decide +kernel
theorem dX12_layDeputy_31 : decode cX12_layDeputy 31 = .ok (.aload_n 0, 1) := by decide +kernel
theorem dX12_layDeputy_32 : decode cX12_layDeputy 32 = .ok (.iload 5, 2) := by decide +kernel
theorem dX12_layDeputy_34 : decode cX12_layDeputy 34 = .ok (.iconst 3, 1) := by decide +kernel
theorem dX12_layDeputy_35 : decode cX12_layDeputy 35 = .ok (.iadd, 1) := by decide +kernel
theorem dX12_layDeputy_36 : decode cX12_layDeputy 36 = .ok (.iload 4, 2) := by decide +kernel
theorem dX12_layDeputy_38 : decode cX12_layDeputy 38 = .ok (.iastore, 1) := by decide +kernel
theorem dX12_layDeputy_39 : decode cX12_layDeputy 39 = .ok (.aload_n 0, 1) := by decide +kernel
theorem dX12_layDeputy_40 : decode cX12_layDeputy 40 = .ok (.iconst 0, 1) := by decide +kernel
theorem dX12_layDeputy_41 : decode cX12_layDeputy 41 = .ok (.dup2, 1) := by decide +kernel
theorem dX12_layDeputy_42 : decode cX12_layDeputy 42 = .ok (.iaload, 1) := by decide +kernel
theorem dX12_layDeputy_43 : decode cX12_layDeputy 43 = .ok (.iconst 1, 1) := by decide +kernel
theorem dX12_layDeputy_44 : decode cX12_layDeputy 44 = .ok (.iadd, 1) := by decide +kernel
theorem dX12_layDeputy_45 : decode cX12_layDeputy 45 = .ok (.iastore, 1) := by decide +kernel
theorem dX12_layDeputy_46 : decode cX12_layDeputy 46 = .ok (.return_, 1) := by decide +kernel
theorem dX12_deputy_0 : decode cX12_deputy 0 = .ok (.iload_n 1, 1) := by decide +kernel
theorem dX12_deputy_1 : decode cX12_deputy 1 = .ok (.i2l, 1) := by decide +kernel
theorem dX12_deputy_2 : decode cX12_deputy 2 = .ok (.lconst 0, 1) := by decide +kernel
theorem dX12_deputy_3 : decode cX12_deputy 3 = .ok (.ldc2_w 65, 3) := by decide +kernel
theorem dX12_deputy_6 : decode cX12_deputy 6 = .ok (.invokestatic 53, 3) := by decide +kernel
theorem dX12_deputy_9 : decode cX12_deputy 9 = .ok (.ifCond .eq 30, 3) := by decide +kernel
theorem dX12_deputy_12 : decode cX12_deputy 12 = .ok (.iload_n 2, 1) := by decide +kernel
theorem dX12_deputy_13 : decode cX12_deputy 13 = .ok (.invokestatic 67, 3) := by decide +kernel
theorem dX12_deputy_16 : decode cX12_deputy 16 = .ok (.ifCond .eq 23, 3) := by decide +kernel
theorem dX12_deputy_19 : decode cX12_deputy 19 = .ok (.iload_n 3, 1) := by decide +kernel
theorem dX12_deputy_20 : decode cX12_deputy 20 = .ok (.invokestatic 67, 3) := by decide +kernel
theorem dX12_deputy_23 : decode cX12_deputy 23 = .ok (.ifCond .eq 16, 3) := by decide +kernel
theorem dX12_deputy_26 : decode cX12_deputy 26 = .ok (.iload 4, 2) := by decide +kernel
theorem dX12_deputy_28 : decode cX12_deputy 28 = .ok (.i2l, 1) := by decide +kernel
theorem dX12_deputy_29 : decode cX12_deputy 29 = .ok (.lconst 0, 1) := by decide +kernel
theorem dX12_deputy_30 : decode cX12_deputy 30 = .ok (.ldc2_w 71, 3) := by decide +kernel
theorem dX12_deputy_33 : decode cX12_deputy 33 = .ok (.invokestatic 53, 3) := by decide +kernel
theorem dX12_deputy_36 : decode cX12_deputy 36 = .ok (.ifCond .ne 10, 3) := by decide +kernel
theorem dX12_deputy_39 : decode cX12_deputy 39 = .ok (.aload_n 0, 1) := by decide +kernel
theorem dX12_deputy_40 : decode cX12_deputy 40 = .ok (.bipush (-2), 2) := by decide +kernel
theorem dX12_deputy_42 : decode cX12_deputy 42 = .ok (.invokevirtual 61, 3) := by decide +kernel
theorem dX12_deputy_45 : decode cX12_deputy 45 = .ok (.ireturn, 1) := by decide +kernel
theorem dX12_deputy_46 : decode cX12_deputy 46 = .ok (.aload_n 0, 1) := by decide +kernel
theorem dX12_deputy_47 : decode cX12_deputy 47 = .ok (.invokevirtual 49, 3) := by decide +kernel
theorem dX12_deputy_50 : decode cX12_deputy 50 = .ok (.bipush 6, 2) := by decide +kernel
theorem dX12_deputy_52 : decode cX12_deputy 52 = .ok (.if_icmp .ne 8, 3) := by decide +kernel
theorem dX12_deputy_55 : decode cX12_deputy 55 = .ok (.aload_n 0, 1) := by decide +kernel
theorem dX12_deputy_56 : decode cX12_deputy 56 = .ok (.invokevirtual 73, 3) := by decide +kernel
theorem dX12_deputy_59 : decode cX12_deputy 59 = .ok (.ireturn, 1) := by decide +kernel
theorem dX12_deputy_60 : decode cX12_deputy 60 = .ok (.aload_n 0, 1) := by decide +kernel
theorem dX12_deputy_61 : decode cX12_deputy 61 = .ok (.getfield 7, 3) := by decide +kernel
theorem dX12_deputy_64 : decode cX12_deputy 64 = .ok (.iload_n 1, 1) := by decide +kernel
theorem dX12_deputy_65 : decode cX12_deputy 65 = .ok (.iload_n 2, 1) := by decide +kernel
theorem dX12_deputy_66 : decode cX12_deputy 66 = .ok (.iload_n 3, 1) := by decide +kernel
theorem dX12_deputy_67 : decode cX12_deputy 67 = .ok (.iload 4, 2) := by decide +kernel
theorem dX12_deputy_69 : decode cX12_deputy 69 = .ok (.invokestatic 76, 3) := by decide +kernel
theorem dX12_deputy_72 : decode cX12_deputy 72 = .ok (.aload_n 0, 1) := by decide +kernel
theorem dX12_deputy_73 : decode cX12_deputy 73 = .ok (.getfield 7, 3) := by decide +kernel
theorem dX12_deputy_76 : decode cX12_deputy 76 = .ok (.bipush 8, 2) := by decide +kernel
theorem dX12_deputy_78 : decode cX12_deputy 78 = .ok (.iconst 0, 1) := by decide +kernel
theorem dX12_deputy_79 : decode cX12_deputy 79 = .ok (.iastore, 1) := by decide +kernel
theorem dX12_deputy_80 : decode cX12_deputy 80 = .ok (.aload_n 0, 1) := by decide +kernel
theorem dX12_deputy_81 : decode cX12_deputy 81 = .ok (.invokevirtual 49, 3) := by decide +kernel
theorem dX12_deputy_84 : decode cX12_deputy 84 = .ok (.iconst 1, 1) := by decide +kernel
theorem dX12_deputy_85 : decode cX12_deputy 85 = .ok (.isub, 1) := by decide +kernel
theorem dX12_deputy_86 : decode cX12_deputy 86 = .ok (.ireturn, 1) := by decide +kernel
theorem dX12_layHand_0 : decode cX12_layHand 0 = .ok (.iconst 0, 1) := by decide +kernel
theorem dX12_layHand_1 : decode cX12_layHand 1 = .ok (.istore_n 1, 1) := by decide +kernel
theorem dX12_layHand_2 : decode cX12_layHand 2 = .ok (.iload_n 1, 1) := by decide +kernel
theorem dX12_layHand_3 : decode cX12_layHand 3 = .ok (.aload_n 0, 1) := by decide +kernel
theorem dX12_layHand_4 : decode cX12_layHand 4 = .ok (.invokevirtual 49, 3) := by decide +kernel
theorem dX12_layHand_7 : decode cX12_layHand 7 = .ok (.if_icmp .ge 45, 3) := by decide +kernel
theorem dX12_layHand_10 : decode cX12_layHand 10 = .ok (.aload_n 0, 1) := by decide +kernel
theorem dX12_layHand_11 : decode cX12_layHand 11 = .ok (.getfield 27, 3) := by decide +kernel
theorem dX12_layHand_14 : decode cX12_layHand 14 = .ok (.iload_n 1, 1) := by decide +kernel
theorem dX12_layHand_15 : decode cX12_layHand 15 = .ok (.aload_n 0, 1) := by decide +kernel
theorem dX12_layHand_16 : decode cX12_layHand 16 = .ok (.iload_n 1, 1) := by decide +kernel
theorem dX12_layHand_17 : decode cX12_layHand 17 = .ok (.iconst 0, 1) := by decide +kernel
theorem dX12_layHand_18 : decode cX12_layHand 18 = .ok (.invokevirtual 80, 3) := by decide +kernel
theorem dX12_layHand_21 : decode cX12_layHand 21 = .ok (.iastore, 1) := by decide +kernel
theorem dX12_layHand_22 : decode cX12_layHand 22 = .ok (.aload_n 0, 1) := by decide +kernel
theorem dX12_layHand_23 : decode cX12_layHand 23 = .ok (.getfield 30, 3) := by decide +kernel
theorem dX12_layHand_26 : decode cX12_layHand 26 = .ok (.iload_n 1, 1) := by decide +kernel
theorem dX12_layHand_27 : decode cX12_layHand 27 = .ok (.aload_n 0, 1) := by decide +kernel
theorem dX12_layHand_28 : decode cX12_layHand 28 = .ok (.iload_n 1, 1) := by decide +kernel
theorem dX12_layHand_29 : decode cX12_layHand 29 = .ok (.iconst 1, 1) := by decide +kernel
theorem dX12_layHand_30 : decode cX12_layHand 30 = .ok (.invokevirtual 80, 3) := by decide +kernel
theorem dX12_layHand_33 : decode cX12_layHand 33 = .ok (.iastore, 1) := by decide +kernel
theorem dX12_layHand_34 : decode cX12_layHand 34 = .ok (.aload_n 0, 1) := by decide +kernel
theorem dX12_layHand_35 : decode cX12_layHand 35 = .ok (.getfield 33, 3) := by decide +kernel
theorem dX12_layHand_38 : decode cX12_layHand 38 = .ok (.iload_n 1, 1) := by decide +kernel
theorem dX12_layHand_39 : decode cX12_layHand 39 = .ok (.aload_n 0, 1) := by decide +kernel
theorem dX12_layHand_40 : decode cX12_layHand 40 = .ok (.iload_n 1, 1) := by decide +kernel
theorem dX12_layHand_41 : decode cX12_layHand 41 = .ok (.iconst 2, 1) := by decide +kernel
theorem dX12_layHand_42 : decode cX12_layHand 42 = .ok (.invokevirtual 80, 3) := by decide +kernel
theorem dX12_layHand_45 : decode cX12_layHand 45 = .ok (.iastore, 1) := by decide +kernel
theorem dX12_layHand_46 : decode cX12_layHand 46 = .ok (.iinc 1 1, 3) := by decide +kernel
theorem dX12_layHand_49 : decode cX12_layHand 49 = .ok (.goto (-47), 3) := by decide +kernel
theorem dX12_layHand_52 : decode cX12_layHand 52 = .ok (.aload_n 0, 1) := by decide +kernel
theorem dX12_layHand_53 : decode cX12_layHand 53 = .ok (.aload_n 0, 1) := by decide +kernel
theorem dX12_layHand_54 : decode cX12_layHand 54 = .ok (.getfield 7, 3) := by decide +kernel
theorem dX12_layHand_57 : decode cX12_layHand 57 = .ok (.iconst 3, 1) := by decide +kernel
theorem dX12_layHand_58 : decode cX12_layHand 58 = .ok (.iaload, 1) := by decide +kernel
theorem dX12_layHand_59 : decode cX12_layHand 59 = .ok (.aload_n 0, 1) := by decide +kernel
theorem dX12_layHand_60 : decode cX12_layHand 60 = .ok (.getfield 7, 3) := by decide +kernel
theorem dX12_layHand_63 : decode cX12_layHand 63 = .ok (.iconst 4, 1) := by decide +kernel
theorem dX12_layHand_64 : decode cX12_layHand 64 = .ok (.iaload, 1) := by decide +kernel
theorem dX12_layHand_65 : decode cX12_layHand 65 = .ok (.ior, 1) := by decide +kernel
theorem dX12_layHand_66 : decode cX12_layHand 66 = .ok (.putfield 84, 3) := by decide +kernel
theorem dX12_layHand_69 : decode cX12_layHand 69 = .ok (.aload_n 0, 1) := by decide +kernel
theorem dX12_layHand_70 : decode cX12_layHand 70 = .ok (.aload_n 0, 1) := by decide +kernel
theorem dX12_layHand_71 : decode cX12_layHand 71 = .ok (.getfield 7, 3) := by decide +kernel
theorem dX12_layHand_74 : decode cX12_layHand 74 = .ok (.bipush 6, 2) := by decide +kernel
theorem dX12_layHand_76 : decode cX12_layHand 76 = .ok (.iaload, 1) := by decide +kernel
theorem dX12_layHand_77 : decode cX12_layHand 77 = .ok (.putfield 88, 3) := by decide +kernel
theorem dX12_layHand_80 : decode cX12_layHand 80 = .ok (.return_, 1) := by decide +kernel
theorem dX12_joyOf_0 : decode cX12_joyOf 0 = .ok (.iconst 2, 1) := by decide +kernel
theorem dX12_joyOf_1 : decode cX12_joyOf 1 = .ok (.iload_n 2, 1) := by decide +kernel
theorem dX12_joyOf_2 : decode cX12_joyOf 2 = .ok (.aload_n 0, 1) := by decide +kernel
theorem dX12_joyOf_3 : decode cX12_joyOf 3 = .ok (.getfield 30, 3) := by decide +kernel
theorem dX12_joyOf_6 : decode cX12_joyOf 6 = .ok (.iload_n 1, 1) := by decide +kernel
theorem dX12_joyOf_7 : decode cX12_joyOf 7 = .ok (.iaload, 1) := by decide +kernel
theorem dX12_joyOf_8 : decode cX12_joyOf 8 = .ok (.iand, 1) := by decide +kernel
theorem dX12_joyOf_9 : decode cX12_joyOf 9 = .ok (.invokestatic 91, 3) := by decide +kernel
theorem dX12_joyOf_12 : decode cX12_joyOf 12 = .ok (.imul, 1) := by decide +kernel
theorem dX12_joyOf_13 : decode cX12_joyOf 13 = .ok (.iconst 3, 1) := by decide +kernel
theorem dX12_joyOf_14 : decode cX12_joyOf 14 = .ok (.iload_n 2, 1) := by decide +kernel
theorem dX12_joyOf_15 : decode cX12_joyOf 15 = .ok (.aload_n 0, 1) := by decide +kernel
theorem dX12_joyOf_16 : decode cX12_joyOf 16 = .ok (.getfield 33, 3) := by decide +kernel
theorem dX12_joyOf_19 : decode cX12_joyOf 19 = .ok (.iload_n 1, 1) := by decide +kernel
theorem dX12_joyOf_20 : decode cX12_joyOf 20 = .ok (.iaload, 1) := by decide +kernel
theorem dX12_joyOf_21 : decode cX12_joyOf 21 = .ok (.iand, 1) := by decide +kernel
theorem dX12_joyOf_22 : decode cX12_joyOf 22 = .ok (.invokestatic 91, 3) := by decide +kernel
theorem dX12_joyOf_25 : decode cX12_joyOf 25 = .ok (.imul, 1) := by decide +kernel
theorem dX12_joyOf_26 : decode cX12_joyOf 26 = .ok (.isub, 1) := by decide +kernel
theorem dX12_joyOf_27 : decode cX12_joyOf 27 = .ok (.istore_n 3, 1) := by decide +kernel
theorem dX12_joyOf_28 : decode cX12_joyOf 28 = .ok (.aload_n 0, 1) := by decide +kernel
theorem dX12_joyOf_29 : decode cX12_joyOf 29 = .ok (.getfield 27, 3) := by decide +kernel
theorem dX12_joyOf_32 : decode cX12_joyOf 32 = .ok (.iload_n 1, 1) := by decide +kernel
theorem dX12_joyOf_33 : decode cX12_joyOf 33 = .ok (.iaload, 1) := by decide +kernel
theorem dX12_joyOf_34 : decode cX12_joyOf 34 = .ok (.iconst 2, 1) := by decide +kernel
theorem dX12_joyOf_35 : decode cX12_joyOf 35 = .ok (.if_icmp .eq 13, 3) := by decide +kernel
theorem dX12_joyOf_38 : decode cX12_joyOf 38 = .ok (.aload_n 0, 1) := by decide +kernel
theorem dX12_joyOf_39 : decode cX12_joyOf 39 = .ok (.getfield 27, 3) := by decide +kernel
theorem dX12_joyOf_42 : decode cX12_joyOf 42 = .ok (.iload_n 1, 1) := by decide +kernel
theorem dX12_joyOf_43 : decode cX12_joyOf 43 = .ok (.iaload, 1) := by decide +kernel
theorem dX12_joyOf_44 : decode cX12_joyOf 44 = .ok (.iconst 4, 1) := by decide +kernel
theorem dX12_joyOf_45 : decode cX12_joyOf 45 = .ok (.if_icmp .ne 9, 3) := by decide +kernel
theorem dX12_joyOf_48 : decode cX12_joyOf 48 = .ok (.iload_n 3, 1) := by decide +kernel
theorem dX12_joyOf_49 : decode cX12_joyOf 49 = .ok (.iconst 2, 1) := by decide +kernel
theorem dX12_joyOf_50 : decode cX12_joyOf 50 = .ok (.iadd, 1) := by decide +kernel
theorem dX12_joyOf_51 : decode cX12_joyOf 51 = .ok (.goto 4, 3) := by decide +kernel
theorem dX12_joyOf_54 : decode cX12_joyOf 54 = .ok (.iload_n 3, 1) := by decide +kernel
theorem dX12_joyOf_55 : decode cX12_joyOf 55 = .ok (.ireturn, 1) := by decide +kernel
theorem dX12_stopsOf_0 : decode cX12_stopsOf 0 = .ok (.aload_n 0, 1) := by decide +kernel
theorem dX12_stopsOf_1 : decode cX12_stopsOf 1 = .ok (.iload_n 1, 1) := by decide +kernel
theorem dX12_stopsOf_2 : decode cX12_stopsOf 2 = .ok (.iload_n 2, 1) := by decide +kernel
theorem dX12_stopsOf_3 : decode cX12_stopsOf 3 = .ok (.invokevirtual 94, 3) := by decide +kernel
theorem dX12_stopsOf_6 : decode cX12_stopsOf 6 = .ok (.ifCond .ge 7, 3) := by decide +kernel
theorem dX12_stopsOf_9 : decode cX12_stopsOf 9 = .ok (.iconst 1, 1) := by decide +kernel
theorem dX12_stopsOf_10 : decode cX12_stopsOf 10 = .ok (.goto 4, 3) := by decide +kernel
theorem dX12_stopsOf_13 : decode cX12_stopsOf 13 = .ok (.iconst 0, 1) := by decide +kernel
theorem dX12_stopsOf_14 : decode cX12_stopsOf 14 = .ok (.istore_n 3, 1) := by decide +kernel
theorem dX12_stopsOf_15 : decode cX12_stopsOf 15 = .ok (.iload_n 3, 1) := by decide +kernel
theorem dX12_stopsOf_16 : decode cX12_stopsOf 16 = .ok (.ifCond .ne 14, 3) := by decide +kernel
theorem dX12_stopsOf_19 : decode cX12_stopsOf 19 = .ok (.iload_n 2, 1) := by decide +kernel
theorem dX12_stopsOf_20 : decode cX12_stopsOf 20 = .ok (.aload_n 0, 1) := by decide +kernel
theorem dX12_stopsOf_21 : decode cX12_stopsOf 21 = .ok (.getfield 33, 3) := by decide +kernel
theorem dX12_stopsOf_24 : decode cX12_stopsOf 24 = .ok (.iload_n 1, 1) := by decide +kernel
theorem dX12_stopsOf_25 : decode cX12_stopsOf 25 = .ok (.iaload, 1) := by decide +kernel
theorem dX12_stopsOf_26 : decode cX12_stopsOf 26 = .ok (.iand, 1) := by decide +kernel
theorem dX12_stopsOf_27 : decode cX12_stopsOf 27 = .ok (.ifCond .eq 7, 3) := by decide +kernel
theorem dX12_stopsOf_30 : decode cX12_stopsOf 30 = .ok (.iconst 1, 1) := by decide +kernel
theorem dX12_stopsOf_31 : decode cX12_stopsOf 31 = .ok (.goto 4, 3) := by decide +kernel
theorem dX12_stopsOf_34 : decode cX12_stopsOf 34 = .ok (.iconst 0, 1) := by decide +kernel
theorem dX12_stopsOf_35 : decode cX12_stopsOf 35 = .ok (.istore 4, 2) := by decide +kernel
theorem dX12_stopsOf_37 : decode cX12_stopsOf 37 = .ok (.iload_n 2, 1) := by decide +kernel
theorem dX12_stopsOf_38 : decode cX12_stopsOf 38 = .ok (.ifCond .ne 5, 3) := by decide +kernel
theorem dX12_stopsOf_41 : decode cX12_stopsOf 41 = .ok (.iconst 0, 1) := by decide +kernel
theorem dX12_stopsOf_42 : decode cX12_stopsOf 42 = .ok (.ireturn, 1) := by decide +kernel
theorem dX12_stopsOf_43 : decode cX12_stopsOf 43 = .ok (.aload_n 0, 1) := by decide +kernel
theorem dX12_stopsOf_44 : decode cX12_stopsOf 44 = .ok (.getfield 27, 3) := by decide +kernel
theorem dX12_stopsOf_47 : decode cX12_stopsOf 47 = .ok (.iload_n 1, 1) := by decide +kernel
theorem dX12_stopsOf_48 : decode cX12_stopsOf 48 = .ok (.iaload, 1) := by decide +kernel
theorem dX12_stopsOf_49 : decode cX12_stopsOf 49 = .ok (.tableswitch 77 1 5 #[35, 77, 77, 38, 57], 35) := by decide +kernel
theorem dX12_stopsOf_84 : decode cX12_stopsOf 84 = .ok (.iload 4, 2) := by decide +kernel
theorem dX12_stopsOf_86 : decode cX12_stopsOf 86 = .ok (.ireturn, 1) := by decide +kernel
theorem dX12_stopsOf_87 : decode cX12_stopsOf 87 = .ok (.iload_n 3, 1) := by decide +kernel
theorem dX12_stopsOf_88 : decode cX12_stopsOf 88 = .ok (.ifCond .eq 16, 3) := by decide +kernel
theorem dX12_stopsOf_91 : decode cX12_stopsOf 91 = .ok (.aload_n 0, 1) := by decide +kernel
theorem dX12_stopsOf_92 : decode cX12_stopsOf 92 = .ok (.getfield 88, 3) := by decide +kernel
theorem dX12_stopsOf_95 : decode cX12_stopsOf 95 = .ok (.iconst 2, 1) := by decide +kernel
theorem dX12_stopsOf_96 : decode cX12_stopsOf 96 = .ok (.irem, 1) := by decide +kernel
theorem dX12_stopsOf_97 : decode cX12_stopsOf 97 = .ok (.ifCond .ne 7, 3) := by decide +kernel
theorem dX12_stopsOf_100 : decode cX12_stopsOf 100 = .ok (.iconst 1, 1) := by decide +kernel
theorem dX12_stopsOf_101 : decode cX12_stopsOf 101 = .ok (.goto 4, 3) := by decide +kernel
theorem dX12_stopsOf_104 : decode cX12_stopsOf 104 = .ok (.iconst 0, 1) := by decide +kernel
theorem dX12_stopsOf_105 : decode cX12_stopsOf 105 = .ok (.ireturn, 1) := by decide +kernel
theorem dX12_stopsOf_106 : decode cX12_stopsOf 106 = .ok (.iload 4, 2) := by decide +kernel
theorem dX12_stopsOf_108 : decode cX12_stopsOf 108 = .ok (.ifCond .ne 12, 3) := by decide +kernel
theorem dX12_stopsOf_111 : decode cX12_stopsOf 111 = .ok (.aload_n 0, 1) := by decide +kernel
theorem dX12_stopsOf_112 : decode cX12_stopsOf 112 = .ok (.getfield 88, 3) := by decide +kernel
theorem dX12_stopsOf_115 : decode cX12_stopsOf 115 = .ok (.iconst 5, 1) := by decide +kernel
theorem dX12_stopsOf_116 : decode cX12_stopsOf 116 = .ok (.irem, 1) := by decide +kernel
theorem dX12_stopsOf_117 : decode cX12_stopsOf 117 = .ok (.ifCond .ne 7, 3) := by decide +kernel
theorem dX12_stopsOf_120 : decode cX12_stopsOf 120 = .ok (.iconst 1, 1) := by decide +kernel
theorem dX12_stopsOf_121 : decode cX12_stopsOf 121 = .ok (.goto 4, 3) := by decide +kernel
theorem dX12_stopsOf_124 : decode cX12_stopsOf 124 = .ok (.iconst 0, 1) := by decide +kernel
theorem dX12_stopsOf_125 : decode cX12_stopsOf 125 = .ok (.ireturn, 1) := by decide +kernel
theorem dX12_stopsOf_126 : decode cX12_stopsOf 126 = .ok (.iload_n 3, 1) := by decide +kernel
theorem dX12_stopsOf_127 : decode cX12_stopsOf 127 = .ok (.ireturn, 1) := by decide +kernel
theorem dX12_stopping_0 : decode cX12_stopping 0 = .ok (.iconst 0, 1) := by decide +kernel
theorem dX12_stopping_1 : decode cX12_stopping 1 = .ok (.istore_n 2, 1) := by decide +kernel
theorem dX12_stopping_2 : decode cX12_stopping 2 = .ok (.iconst 0, 1) := by decide +kernel
theorem dX12_stopping_3 : decode cX12_stopping 3 = .ok (.istore_n 3, 1) := by decide +kernel
theorem dX12_stopping_4 : decode cX12_stopping 4 = .ok (.iload_n 3, 1) := by decide +kernel
theorem dX12_stopping_5 : decode cX12_stopping 5 = .ok (.aload_n 0, 1) := by decide +kernel
theorem dX12_stopping_6 : decode cX12_stopping 6 = .ok (.invokevirtual 49, 3) := by decide +kernel
theorem dX12_stopping_9 : decode cX12_stopping 9 = .ok (.if_icmp .ge 39, 3) := by decide +kernel
theorem dX12_stopping_12 : decode cX12_stopping 12 = .ok (.iload_n 2, 1) := by decide +kernel
theorem dX12_stopping_13 : decode cX12_stopping 13 = .ok (.aload_n 0, 1) := by decide +kernel
theorem dX12_stopping_14 : decode cX12_stopping 14 = .ok (.getfield 84, 3) := by decide +kernel
theorem dX12_stopping_17 : decode cX12_stopping 17 = .ok (.iload_n 3, 1) := by decide +kernel
theorem dX12_stopping_18 : decode cX12_stopping 18 = .ok (.invokestatic 97, 3) := by decide +kernel
theorem dX12_stopping_21 : decode cX12_stopping 21 = .ok (.ifCond .ne 18, 3) := by decide +kernel
theorem dX12_stopping_24 : decode cX12_stopping 24 = .ok (.aload_n 0, 1) := by decide +kernel
theorem dX12_stopping_25 : decode cX12_stopping 25 = .ok (.iload_n 3, 1) := by decide +kernel
theorem dX12_stopping_26 : decode cX12_stopping 26 = .ok (.iload_n 1, 1) := by decide +kernel
theorem dX12_stopping_27 : decode cX12_stopping 27 = .ok (.invokevirtual 101, 3) := by decide +kernel
theorem dX12_stopping_30 : decode cX12_stopping 30 = .ok (.ifCond .eq 9, 3) := by decide +kernel
theorem dX12_stopping_33 : decode cX12_stopping 33 = .ok (.iconst 1, 1) := by decide +kernel
theorem dX12_stopping_34 : decode cX12_stopping 34 = .ok (.iload_n 3, 1) := by decide +kernel
theorem dX12_stopping_35 : decode cX12_stopping 35 = .ok (.ishl, 1) := by decide +kernel
theorem dX12_stopping_36 : decode cX12_stopping 36 = .ok (.goto 4, 3) := by decide +kernel
theorem dX12_stopping_39 : decode cX12_stopping 39 = .ok (.iconst 0, 1) := by decide +kernel
theorem dX12_stopping_40 : decode cX12_stopping 40 = .ok (.ior, 1) := by decide +kernel
theorem dX12_stopping_41 : decode cX12_stopping 41 = .ok (.istore_n 2, 1) := by decide +kernel
theorem dX12_stopping_42 : decode cX12_stopping 42 = .ok (.iinc 3 1, 3) := by decide +kernel
theorem dX12_stopping_45 : decode cX12_stopping 45 = .ok (.goto (-41), 3) := by decide +kernel
theorem dX12_stopping_48 : decode cX12_stopping 48 = .ok (.iload_n 2, 1) := by decide +kernel
theorem dX12_stopping_49 : decode cX12_stopping 49 = .ok (.ireturn, 1) := by decide +kernel
theorem dX12_costOf_0 : decode cX12_costOf 0 = .ok (.aload_n 0, 1) := by decide +kernel
theorem dX12_costOf_1 : decode cX12_costOf 1 = .ok (.iload_n 1, 1) := by decide +kernel
theorem dX12_costOf_2 : decode cX12_costOf 2 = .ok (.iconst 3, 1) := by decide +kernel
theorem dX12_costOf_3 : decode cX12_costOf 3 = .ok (.invokevirtual 80, 3) := by decide +kernel
theorem dX12_costOf_6 : decode cX12_costOf 6 = .ok (.istore_n 2, 1) := by decide +kernel
theorem dX12_costOf_7 : decode cX12_costOf 7 = .ok (.aload_n 0, 1) := by decide +kernel
theorem dX12_costOf_8 : decode cX12_costOf 8 = .ok (.getfield 27, 3) := by decide +kernel
theorem dX12_costOf_11 : decode cX12_costOf 11 = .ok (.iload_n 1, 1) := by decide +kernel
theorem dX12_costOf_12 : decode cX12_costOf 12 = .ok (.iaload, 1) := by decide +kernel
theorem dX12_costOf_13 : decode cX12_costOf 13 = .ok (.iconst 3, 1) := by decide +kernel
theorem dX12_costOf_14 : decode cX12_costOf 14 = .ok (.if_icmp .ne 11, 3) := by decide +kernel
theorem dX12_costOf_17 : decode cX12_costOf 17 = .ok (.iload_n 2, 1) := by decide +kernel
theorem dX12_costOf_18 : decode cX12_costOf 18 = .ok (.iconst 1, 1) := by decide +kernel
theorem dX12_costOf_19 : decode cX12_costOf 19 = .ok (.iadd, 1) := by decide +kernel
theorem dX12_costOf_20 : decode cX12_costOf 20 = .ok (.iconst 2, 1) := by decide +kernel
theorem dX12_costOf_21 : decode cX12_costOf 21 = .ok (.idiv, 1) := by decide +kernel
theorem dX12_costOf_22 : decode cX12_costOf 22 = .ok (.goto 20, 3) := by decide +kernel
theorem dX12_costOf_25 : decode cX12_costOf 25 = .ok (.aload_n 0, 1) := by decide +kernel
theorem dX12_costOf_26 : decode cX12_costOf 26 = .ok (.getfield 27, 3) := by decide +kernel
theorem dX12_costOf_29 : decode cX12_costOf 29 = .ok (.iload_n 1, 1) := by decide +kernel
theorem dX12_costOf_30 : decode cX12_costOf 30 = .ok (.iaload, 1) := by decide +kernel
theorem dX12_costOf_31 : decode cX12_costOf 31 = .ok (.iconst 5, 1) := by decide +kernel
theorem dX12_costOf_32 : decode cX12_costOf 32 = .ok (.if_icmp .ne 9, 3) := by decide +kernel
theorem dX12_costOf_35 : decode cX12_costOf 35 = .ok (.iconst 2, 1) := by decide +kernel
theorem dX12_costOf_36 : decode cX12_costOf 36 = .ok (.iload_n 2, 1) := by decide +kernel
theorem dX12_costOf_37 : decode cX12_costOf 37 = .ok (.imul, 1) := by decide +kernel
theorem dX12_costOf_38 : decode cX12_costOf 38 = .ok (.goto 4, 3) := by decide +kernel
theorem dX12_costOf_41 : decode cX12_costOf 41 = .ok (.iload_n 2, 1) := by decide +kernel
theorem dX12_costOf_42 : decode cX12_costOf 42 = .ok (.ireturn, 1) := by decide +kernel
theorem dX12_free_0 : decode cX12_free 0 = .ok (.sipush 255, 3) := by decide +kernel
theorem dX12_free_3 : decode cX12_free 3 = .ok (.aload_n 0, 1) := by decide +kernel
theorem dX12_free_4 : decode cX12_free 4 = .ok (.getfield 7, 3) := by decide +kernel
theorem dX12_free_7 : decode cX12_free 7 = .ok (.iconst 1, 1) := by decide +kernel
theorem dX12_free_8 : decode cX12_free 8 = .ok (.iaload, 1) := by decide +kernel
theorem dX12_free_9 : decode cX12_free 9 = .ok (.iconst (-1), 1) := by decide +kernel
theorem dX12_free_10 : decode cX12_free 10 = .ok (.ixor, 1) := by decide +kernel
theorem dX12_free_11 : decode cX12_free 11 = .ok (.iand, 1) := by decide +kernel
theorem dX12_free_12 : decode cX12_free 12 = .ok (.aload_n 0, 1) := by decide +kernel
theorem dX12_free_13 : decode cX12_free 13 = .ok (.getfield 7, 3) := by decide +kernel
theorem dX12_free_16 : decode cX12_free 16 = .ok (.iconst 2, 1) := by decide +kernel
theorem dX12_free_17 : decode cX12_free 17 = .ok (.iaload, 1) := by decide +kernel
theorem dX12_free_18 : decode cX12_free 18 = .ok (.iconst (-1), 1) := by decide +kernel
theorem dX12_free_19 : decode cX12_free 19 = .ok (.ixor, 1) := by decide +kernel
theorem dX12_free_20 : decode cX12_free 20 = .ok (.iand, 1) := by decide +kernel
theorem dX12_free_21 : decode cX12_free 21 = .ok (.ireturn, 1) := by decide +kernel
theorem dX12_keep_0 : decode cX12_keep 0 = .ok (.aload_n 0, 1) := by decide +kernel
theorem dX12_keep_1 : decode cX12_keep 1 = .ok (.getfield 7, 3) := by decide +kernel
theorem dX12_keep_4 : decode cX12_keep 4 = .ok (.bipush 8, 2) := by decide +kernel
theorem dX12_keep_6 : decode cX12_keep 6 = .ok (.iaload, 1) := by decide +kernel
theorem dX12_keep_7 : decode cX12_keep 7 = .ok (.bipush 8, 2) := by decide +kernel
theorem dX12_keep_9 : decode cX12_keep 9 = .ok (.if_icmp .ne 44, 3) := by decide +kernel
theorem dX12_keep_12 : decode cX12_keep 12 = .ok (.iconst 0, 1) := by decide +kernel
theorem dX12_keep_13 : decode cX12_keep 13 = .ok (.istore_n 1, 1) := by decide +kernel
theorem dX12_keep_14 : decode cX12_keep 14 = .ok (.iload_n 1, 1) := by decide +kernel
theorem dX12_keep_15 : decode cX12_keep 15 = .ok (.bipush 42, 2) := by decide +kernel
theorem dX12_keep_17 : decode cX12_keep 17 = .ok (.if_icmp .ge 27, 3) := by decide +kernel
theorem dX12_keep_20 : decode cX12_keep 20 = .ok (.aload_n 0, 1) := by decide +kernel
theorem dX12_keep_21 : decode cX12_keep 21 = .ok (.getfield 7, 3) := by decide +kernel
theorem dX12_keep_24 : decode cX12_keep 24 = .ok (.bipush 57, 2) := by decide +kernel
theorem dX12_keep_26 : decode cX12_keep 26 = .ok (.iload_n 1, 1) := by decide +kernel
theorem dX12_keep_27 : decode cX12_keep 27 = .ok (.iadd, 1) := by decide +kernel
theorem dX12_keep_28 : decode cX12_keep 28 = .ok (.aload_n 0, 1) := by decide +kernel
theorem dX12_keep_29 : decode cX12_keep 29 = .ok (.getfield 7, 3) := by decide +kernel
theorem dX12_keep_32 : decode cX12_keep 32 = .ok (.bipush 63, 2) := by decide +kernel
theorem dX12_keep_34 : decode cX12_keep 34 = .ok (.iload_n 1, 1) := by decide +kernel
theorem dX12_keep_35 : decode cX12_keep 35 = .ok (.iadd, 1) := by decide +kernel
theorem dX12_keep_36 : decode cX12_keep 36 = .ok (.iaload, 1) := by decide +kernel
theorem dX12_keep_37 : decode cX12_keep 37 = .ok (.iastore, 1) := by decide +kernel
theorem dX12_keep_38 : decode cX12_keep 38 = .ok (.iinc 1 1, 3) := by decide +kernel
theorem dX12_keep_41 : decode cX12_keep 41 = .ok (.goto (-27), 3) := by decide +kernel
theorem dX12_keep_44 : decode cX12_keep 44 = .ok (.aload_n 0, 1) := by decide +kernel
theorem dX12_keep_45 : decode cX12_keep 45 = .ok (.getfield 7, 3) := by decide +kernel
theorem dX12_keep_48 : decode cX12_keep 48 = .ok (.bipush 8, 2) := by decide +kernel
theorem dX12_keep_50 : decode cX12_keep 50 = .ok (.bipush 7, 2) := by decide +kernel
theorem dX12_keep_52 : decode cX12_keep 52 = .ok (.iastore, 1) := by decide +kernel
theorem dX12_keep_53 : decode cX12_keep 53 = .ok (.iconst 0, 1) := by decide +kernel
theorem dX12_keep_54 : decode cX12_keep 54 = .ok (.istore_n 1, 1) := by decide +kernel
theorem dX12_keep_55 : decode cX12_keep 55 = .ok (.iload_n 1, 1) := by decide +kernel
theorem dX12_keep_56 : decode cX12_keep 56 = .ok (.bipush 6, 2) := by decide +kernel
theorem dX12_keep_58 : decode cX12_keep 58 = .ok (.if_icmp .ge 37, 3) := by decide +kernel
theorem dX12_keep_61 : decode cX12_keep 61 = .ok (.aload_n 0, 1) := by decide +kernel
theorem dX12_keep_62 : decode cX12_keep 62 = .ok (.getfield 7, 3) := by decide +kernel
theorem dX12_keep_65 : decode cX12_keep 65 = .ok (.bipush 57, 2) := by decide +kernel
theorem dX12_keep_67 : decode cX12_keep 67 = .ok (.bipush 6, 2) := by decide +kernel
theorem dX12_keep_69 : decode cX12_keep 69 = .ok (.aload_n 0, 1) := by decide +kernel
theorem dX12_keep_70 : decode cX12_keep 70 = .ok (.getfield 7, 3) := by decide +kernel
theorem dX12_keep_73 : decode cX12_keep 73 = .ok (.bipush 8, 2) := by decide +kernel
theorem dX12_keep_75 : decode cX12_keep 75 = .ok (.iaload, 1) := by decide +kernel
theorem dX12_keep_76 : decode cX12_keep 76 = .ok (.imul, 1) := by decide +kernel
theorem dX12_keep_77 : decode cX12_keep 77 = .ok (.iadd, 1) := by decide +kernel
theorem dX12_keep_78 : decode cX12_keep 78 = .ok (.iload_n 1, 1) := by decide +kernel
theorem dX12_keep_79 : decode cX12_keep 79 = .ok (.iadd, 1) := by decide +kernel
theorem dX12_keep_80 : decode cX12_keep 80 = .ok (.aload_n 0, 1) := by decide +kernel
theorem dX12_keep_81 : decode cX12_keep 81 = .ok (.getfield 7, 3) := by decide +kernel
theorem dX12_keep_84 : decode cX12_keep 84 = .ok (.iconst 1, 1) := by decide +kernel
theorem dX12_keep_85 : decode cX12_keep 85 = .ok (.iload_n 1, 1) := by decide +kernel
theorem dX12_keep_86 : decode cX12_keep 86 = .ok (.iadd, 1) := by decide +kernel
theorem dX12_keep_87 : decode cX12_keep 87 = .ok (.iaload, 1) := by decide +kernel
theorem dX12_keep_88 : decode cX12_keep 88 = .ok (.iastore, 1) := by decide +kernel
theorem dX12_keep_89 : decode cX12_keep 89 = .ok (.iinc 1 1, 3) := by decide +kernel
theorem dX12_keep_92 : decode cX12_keep 92 = .ok (.goto (-37), 3) := by decide +kernel
theorem dX12_keep_95 : decode cX12_keep 95 = .ok (.aload_n 0, 1) := by decide +kernel
theorem dX12_keep_96 : decode cX12_keep 96 = .ok (.getfield 7, 3) := by decide +kernel
theorem dX12_keep_99 : decode cX12_keep 99 = .ok (.bipush 8, 2) := by decide +kernel
theorem dX12_keep_101 : decode cX12_keep 101 = .ok (.dup2, 1) := by decide +kernel
theorem dX12_keep_102 : decode cX12_keep 102 = .ok (.iaload, 1) := by decide +kernel
theorem dX12_keep_103 : decode cX12_keep 103 = .ok (.iconst 1, 1) := by decide +kernel
theorem dX12_keep_104 : decode cX12_keep 104 = .ok (.iadd, 1) := by decide +kernel
theorem dX12_keep_105 : decode cX12_keep 105 = .ok (.iastore, 1) := by decide +kernel
theorem dX12_keep_106 : decode cX12_keep 106 = .ok (.return_, 1) := by decide +kernel
theorem dX12_goEnd_0 : decode cX12_goEnd 0 = .ok (.aload_n 0, 1) := by decide +kernel
theorem dX12_goEnd_1 : decode cX12_goEnd 1 = .ok (.getfield 7, 3) := by decide +kernel
theorem dX12_goEnd_4 : decode cX12_goEnd 4 = .ok (.iconst 2, 1) := by decide +kernel
theorem dX12_goEnd_5 : decode cX12_goEnd 5 = .ok (.dup2, 1) := by decide +kernel
theorem dX12_goEnd_6 : decode cX12_goEnd 6 = .ok (.iaload, 1) := by decide +kernel
theorem dX12_goEnd_7 : decode cX12_goEnd 7 = .ok (.iload_n 1, 1) := by decide +kernel
theorem dX12_goEnd_8 : decode cX12_goEnd 8 = .ok (.ior, 1) := by decide +kernel
theorem dX12_goEnd_9 : decode cX12_goEnd 9 = .ok (.iastore, 1) := by decide +kernel
theorem dX12_goEnd_10 : decode cX12_goEnd 10 = .ok (.aload_n 0, 1) := by decide +kernel
theorem dX12_goEnd_11 : decode cX12_goEnd 11 = .ok (.getfield 7, 3) := by decide +kernel
theorem dX12_goEnd_14 : decode cX12_goEnd 14 = .ok (.iconst 1, 1) := by decide +kernel
theorem dX12_goEnd_15 : decode cX12_goEnd 15 = .ok (.iconst 0, 1) := by decide +kernel
theorem dX12_goEnd_16 : decode cX12_goEnd 16 = .ok (.iastore, 1) := by decide +kernel
theorem dX12_goEnd_17 : decode cX12_goEnd 17 = .ok (.aload_n 0, 1) := by decide +kernel
theorem dX12_goEnd_18 : decode cX12_goEnd 18 = .ok (.getfield 7, 3) := by decide +kernel
theorem dX12_goEnd_21 : decode cX12_goEnd 21 = .ok (.iconst 3, 1) := by decide +kernel
theorem dX12_goEnd_22 : decode cX12_goEnd 22 = .ok (.iconst 0, 1) := by decide +kernel
theorem dX12_goEnd_23 : decode cX12_goEnd 23 = .ok (.iastore, 1) := by decide +kernel
theorem dX12_goEnd_24 : decode cX12_goEnd 24 = .ok (.aload_n 0, 1) := by decide +kernel
theorem dX12_goEnd_25 : decode cX12_goEnd 25 = .ok (.getfield 7, 3) := by decide +kernel
theorem dX12_goEnd_28 : decode cX12_goEnd 28 = .ok (.iconst 4, 1) := by decide +kernel
theorem dX12_goEnd_29 : decode cX12_goEnd 29 = .ok (.iconst 0, 1) := by decide +kernel
theorem dX12_goEnd_30 : decode cX12_goEnd 30 = .ok (.iastore, 1) := by decide +kernel
theorem dX12_goEnd_31 : decode cX12_goEnd 31 = .ok (.aload_n 0, 1) := by decide +kernel
theorem dX12_goEnd_32 : decode cX12_goEnd 32 = .ok (.getfield 7, 3) := by decide +kernel
theorem dX12_goEnd_35 : decode cX12_goEnd 35 = .ok (.bipush 6, 2) := by decide +kernel
theorem dX12_goEnd_37 : decode cX12_goEnd 37 = .ok (.dup2, 1) := by decide +kernel
theorem dX12_goEnd_38 : decode cX12_goEnd 38 = .ok (.iaload, 1) := by decide +kernel
theorem dX12_goEnd_39 : decode cX12_goEnd 39 = .ok (.iconst 1, 1) := by decide +kernel
theorem dX12_goEnd_40 : decode cX12_goEnd 40 = .ok (.iadd, 1) := by decide +kernel
theorem dX12_goEnd_41 : decode cX12_goEnd 41 = .ok (.iastore, 1) := by decide +kernel
theorem dX12_goEnd_42 : decode cX12_goEnd 42 = .ok (.return_, 1) := by decide +kernel
theorem dX12_moves_0 : decode cX12_moves 0 = .ok (.iload_n 1, 1) := by decide +kernel
theorem dX12_moves_1 : decode cX12_moves 1 = .ok (.invokestatic 67, 3) := by decide +kernel
theorem dX12_moves_4 : decode cX12_moves 4 = .ok (.ifCond .eq 7, 3) := by decide +kernel
theorem dX12_moves_7 : decode cX12_moves 7 = .ok (.iload_n 1, 1) := by decide +kernel
theorem dX12_moves_8 : decode cX12_moves 8 = .ok (.ifCond .ne 10, 3) := by decide +kernel
theorem dX12_moves_11 : decode cX12_moves 11 = .ok (.aload_n 0, 1) := by decide +kernel
theorem dX12_moves_12 : decode cX12_moves 12 = .ok (.bipush (-2), 2) := by decide +kernel
theorem dX12_moves_14 : decode cX12_moves 14 = .ok (.invokevirtual 61, 3) := by decide +kernel
theorem dX12_moves_17 : decode cX12_moves 17 = .ok (.ireturn, 1) := by decide +kernel
theorem dX12_moves_18 : decode cX12_moves 18 = .ok (.iload_n 1, 1) := by decide +kernel
theorem dX12_moves_19 : decode cX12_moves 19 = .ok (.aload_n 0, 1) := by decide +kernel
theorem dX12_moves_20 : decode cX12_moves 20 = .ok (.invokevirtual 104, 3) := by decide +kernel
theorem dX12_moves_23 : decode cX12_moves 23 = .ok (.iconst (-1), 1) := by decide +kernel
theorem dX12_moves_24 : decode cX12_moves 24 = .ok (.ixor, 1) := by decide +kernel
theorem dX12_moves_25 : decode cX12_moves 25 = .ok (.iand, 1) := by decide +kernel
theorem dX12_moves_26 : decode cX12_moves 26 = .ok (.ifCond .eq 8, 3) := by decide +kernel
theorem dX12_moves_29 : decode cX12_moves 29 = .ok (.aload_n 0, 1) := by decide +kernel
theorem dX12_moves_30 : decode cX12_moves 30 = .ok (.invokevirtual 107, 3) := by decide +kernel
theorem dX12_moves_33 : decode cX12_moves 33 = .ok (.ireturn, 1) := by decide +kernel
theorem dX12_moves_34 : decode cX12_moves 34 = .ok (.aload_n 0, 1) := by decide +kernel
theorem dX12_moves_35 : decode cX12_moves 35 = .ok (.invokevirtual 110, 3) := by decide +kernel
theorem dX12_moves_38 : decode cX12_moves 38 = .ok (.aload_n 0, 1) := by decide +kernel
theorem dX12_moves_39 : decode cX12_moves 39 = .ok (.invokevirtual 113, 3) := by decide +kernel
theorem dX12_moves_42 : decode cX12_moves 42 = .ok (.aload_n 0, 1) := by decide +kernel
theorem dX12_moves_43 : decode cX12_moves 43 = .ok (.iload_n 1, 1) := by decide +kernel
theorem dX12_moves_44 : decode cX12_moves 44 = .ok (.invokevirtual 116, 3) := by decide +kernel
theorem dX12_moves_47 : decode cX12_moves 47 = .ok (.istore_n 2, 1) := by decide +kernel
theorem dX12_moves_48 : decode cX12_moves 48 = .ok (.iload_n 2, 1) := by decide +kernel
theorem dX12_moves_49 : decode cX12_moves 49 = .ok (.ifCond .eq 11, 3) := by decide +kernel
theorem dX12_moves_52 : decode cX12_moves 52 = .ok (.aload_n 0, 1) := by decide +kernel
theorem dX12_moves_53 : decode cX12_moves 53 = .ok (.iconst 0, 1) := by decide +kernel
theorem dX12_moves_54 : decode cX12_moves 54 = .ok (.invokevirtual 119, 3) := by decide +kernel
theorem dX12_moves_57 : decode cX12_moves 57 = .ok (.goto 13, 3) := by decide +kernel
theorem dX12_moves_60 : decode cX12_moves 60 = .ok (.aload_n 0, 1) := by decide +kernel
theorem dX12_moves_61 : decode cX12_moves 61 = .ok (.getfield 7, 3) := by decide +kernel
theorem dX12_moves_64 : decode cX12_moves 64 = .ok (.iconst 1, 1) := by decide +kernel
theorem dX12_moves_65 : decode cX12_moves 65 = .ok (.dup2, 1) := by decide +kernel
theorem dX12_moves_66 : decode cX12_moves 66 = .ok (.iaload, 1) := by decide +kernel
theorem dX12_moves_67 : decode cX12_moves 67 = .ok (.iload_n 1, 1) := by decide +kernel
theorem dX12_moves_68 : decode cX12_moves 68 = .ok (.ior, 1) := by decide +kernel
theorem dX12_moves_69 : decode cX12_moves 69 = .ok (.iastore, 1) := by decide +kernel
theorem dX12_moves_70 : decode cX12_moves 70 = .ok (.iload_n 2, 1) := by decide +kernel
theorem dX12_moves_71 : decode cX12_moves 71 = .ok (.ireturn, 1) := by decide +kernel
theorem dX12_end_0 : decode cX12_end 0 = .ok (.aload_n 0, 1) := by decide +kernel
theorem dX12_end_1 : decode cX12_end 1 = .ok (.invokevirtual 113, 3) := by decide +kernel
theorem dX12_end_4 : decode cX12_end 4 = .ok (.aload_n 0, 1) := by decide +kernel
theorem dX12_end_5 : decode cX12_end 5 = .ok (.aload_n 0, 1) := by decide +kernel
theorem dX12_end_6 : decode cX12_end 6 = .ok (.getfield 7, 3) := by decide +kernel
theorem dX12_end_9 : decode cX12_end 9 = .ok (.iconst 1, 1) := by decide +kernel
theorem dX12_end_10 : decode cX12_end 10 = .ok (.iaload, 1) := by decide +kernel
theorem dX12_end_11 : decode cX12_end 11 = .ok (.invokevirtual 119, 3) := by decide +kernel
theorem dX12_end_14 : decode cX12_end 14 = .ok (.aload_n 0, 1) := by decide +kernel
theorem dX12_end_15 : decode cX12_end 15 = .ok (.getfield 7, 3) := by decide +kernel
theorem dX12_end_18 : decode cX12_end 18 = .ok (.iconst 2, 1) := by decide +kernel
theorem dX12_end_19 : decode cX12_end 19 = .ok (.iaload, 1) := by decide +kernel
theorem dX12_end_20 : decode cX12_end 20 = .ok (.ireturn, 1) := by decide +kernel
theorem dX12_buy_0 : decode cX12_buy 0 = .ok (.aload_n 0, 1) := by decide +kernel
theorem dX12_buy_1 : decode cX12_buy 1 = .ok (.iload_n 1, 1) := by decide +kernel
theorem dX12_buy_2 : decode cX12_buy 2 = .ok (.invokevirtual 123, 3) := by decide +kernel
theorem dX12_buy_5 : decode cX12_buy 5 = .ok (.ifCond .ne 10, 3) := by decide +kernel
theorem dX12_buy_8 : decode cX12_buy 8 = .ok (.aload_n 0, 1) := by decide +kernel
theorem dX12_buy_9 : decode cX12_buy 9 = .ok (.bipush (-2), 2) := by decide +kernel
theorem dX12_buy_11 : decode cX12_buy 11 = .ok (.invokevirtual 61, 3) := by decide +kernel
theorem dX12_buy_14 : decode cX12_buy 14 = .ok (.ireturn, 1) := by decide +kernel
theorem dX12_buy_15 : decode cX12_buy 15 = .ok (.aload_n 0, 1) := by decide +kernel
theorem dX12_buy_16 : decode cX12_buy 16 = .ok (.getfield 7, 3) := by decide +kernel
theorem dX12_buy_19 : decode cX12_buy 19 = .ok (.iconst 3, 1) := by decide +kernel
theorem dX12_buy_20 : decode cX12_buy 20 = .ok (.iaload, 1) := by decide +kernel
theorem dX12_buy_21 : decode cX12_buy 21 = .ok (.iload_n 1, 1) := by decide +kernel
theorem dX12_buy_22 : decode cX12_buy 22 = .ok (.invokestatic 97, 3) := by decide +kernel
theorem dX12_buy_25 : decode cX12_buy 25 = .ok (.ifCond .eq 8, 3) := by decide +kernel
theorem dX12_buy_28 : decode cX12_buy 28 = .ok (.aload_n 0, 1) := by decide +kernel
theorem dX12_buy_29 : decode cX12_buy 29 = .ok (.invokevirtual 107, 3) := by decide +kernel
theorem dX12_buy_32 : decode cX12_buy 32 = .ok (.ireturn, 1) := by decide +kernel
theorem dX12_buy_33 : decode cX12_buy 33 = .ok (.aload_n 0, 1) := by decide +kernel
theorem dX12_buy_34 : decode cX12_buy 34 = .ok (.invokevirtual 110, 3) := by decide +kernel
theorem dX12_buy_37 : decode cX12_buy 37 = .ok (.aload_n 0, 1) := by decide +kernel
theorem dX12_buy_38 : decode cX12_buy 38 = .ok (.invokevirtual 113, 3) := by decide +kernel
theorem dX12_buy_41 : decode cX12_buy 41 = .ok (.aload_n 0, 1) := by decide +kernel
theorem dX12_buy_42 : decode cX12_buy 42 = .ok (.getfield 7, 3) := by decide +kernel
theorem dX12_buy_45 : decode cX12_buy 45 = .ok (.iconst 3, 1) := by decide +kernel
theorem dX12_buy_46 : decode cX12_buy 46 = .ok (.dup2, 1) := by decide +kernel
theorem dX12_buy_47 : decode cX12_buy 47 = .ok (.iaload, 1) := by decide +kernel
theorem dX12_buy_48 : decode cX12_buy 48 = .ok (.iconst 1, 1) := by decide +kernel
theorem dX12_buy_49 : decode cX12_buy 49 = .ok (.iload_n 1, 1) := by decide +kernel
theorem dX12_buy_50 : decode cX12_buy 50 = .ok (.ishl, 1) := by decide +kernel
theorem dX12_buy_51 : decode cX12_buy 51 = .ok (.ior, 1) := by decide +kernel
theorem dX12_buy_52 : decode cX12_buy 52 = .ok (.iastore, 1) := by decide +kernel
theorem dX12_buy_53 : decode cX12_buy 53 = .ok (.aload_n 0, 1) := by decide +kernel
theorem dX12_buy_54 : decode cX12_buy 54 = .ok (.getfield 7, 3) := by decide +kernel
theorem dX12_buy_57 : decode cX12_buy 57 = .ok (.iconst 5, 1) := by decide +kernel
theorem dX12_buy_58 : decode cX12_buy 58 = .ok (.dup2, 1) := by decide +kernel
theorem dX12_buy_59 : decode cX12_buy 59 = .ok (.iaload, 1) := by decide +kernel
theorem dX12_buy_60 : decode cX12_buy 60 = .ok (.aload_n 0, 1) := by decide +kernel
theorem dX12_buy_61 : decode cX12_buy 61 = .ok (.iload_n 1, 1) := by decide +kernel
theorem dX12_buy_62 : decode cX12_buy 62 = .ok (.invokevirtual 126, 3) := by decide +kernel
theorem dX12_buy_65 : decode cX12_buy 65 = .ok (.iadd, 1) := by decide +kernel
theorem dX12_buy_66 : decode cX12_buy 66 = .ok (.iastore, 1) := by decide +kernel
theorem dX12_buy_67 : decode cX12_buy 67 = .ok (.aload_n 0, 1) := by decide +kernel
theorem dX12_buy_68 : decode cX12_buy 68 = .ok (.iload_n 1, 1) := by decide +kernel
theorem dX12_buy_69 : decode cX12_buy 69 = .ok (.invokevirtual 126, 3) := by decide +kernel
theorem dX12_buy_72 : decode cX12_buy 72 = .ok (.ireturn, 1) := by decide +kernel
theorem dX12_lock_0 : decode cX12_lock 0 = .ok (.aload_n 0, 1) := by decide +kernel
theorem dX12_lock_1 : decode cX12_lock 1 = .ok (.iload_n 1, 1) := by decide +kernel
theorem dX12_lock_2 : decode cX12_lock 2 = .ok (.invokevirtual 123, 3) := by decide +kernel
theorem dX12_lock_5 : decode cX12_lock 5 = .ok (.ifCond .ne 10, 3) := by decide +kernel
theorem dX12_lock_8 : decode cX12_lock 8 = .ok (.aload_n 0, 1) := by decide +kernel
theorem dX12_lock_9 : decode cX12_lock 9 = .ok (.bipush (-2), 2) := by decide +kernel
