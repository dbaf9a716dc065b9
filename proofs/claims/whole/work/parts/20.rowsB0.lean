theorem dX11_init_0 : decode cX11_init 0 = .ok (.aload_n 0, 1) := by decide +kernel
theorem dX11_init_1 : decode cX11_init 1 = .ok (.invokespecial 1, 3) := by decide +kernel
theorem dX11_init_4 : decode cX11_init 4 = .ok (.aload_n 0, 1) := by decide +kernel
theorem dX11_init_5 : decode cX11_init 5 = .ok (.bipush 6, 2) := by decide +kernel
theorem dX11_init_7 : decode cX11_init 7 = .ok (.anewarray 7, 3) := by decide +kernel
theorem dX11_init_10 : decode cX11_init 10 = .ok (.dup, 1) := by decide +kernel
theorem dX11_init_11 : decode cX11_init 11 = .ok (.iconst 0, 1) := by decide +kernel
theorem dX11_init_12 : decode cX11_init 12 = .ok (.new 7, 3) := by decide +kernel
theorem dX11_init_15 : decode cX11_init 15 = .ok (.dup, 1) := by decide +kernel
theorem dX11_init_16 : decode cX11_init 16 = .ok (.invokespecial 9, 3) := by decide +kernel
theorem dX11_init_19 : decode cX11_init 19 = .ok (.aastore, 1) := by decide +kernel
theorem dX11_init_20 : decode cX11_init 20 = .ok (.dup, 1) := by decide +kernel
theorem dX11_init_21 : decode cX11_init 21 = .ok (.iconst 1, 1) := by decide +kernel
theorem dX11_init_22 : decode cX11_init 22 = .ok (.new 10, 3) := by decide +kernel
theorem dX11_init_25 : decode cX11_init 25 = .ok (.dup, 1) := by decide +kernel
theorem dX11_init_26 : decode cX11_init 26 = .ok (.invokespecial 12, 3) := by decide +kernel
theorem dX11_init_29 : decode cX11_init 29 = .ok (.aastore, 1) := by decide +kernel
theorem dX11_init_30 : decode cX11_init 30 = .ok (.dup, 1) := by decide +kernel
theorem dX11_init_31 : decode cX11_init 31 = .ok (.iconst 2, 1) := by decide +kernel
theorem dX11_init_32 : decode cX11_init 32 = .ok (.new 13, 3) := by decide +kernel
theorem dX11_init_35 : decode cX11_init 35 = .ok (.dup, 1) := by decide +kernel
theorem dX11_init_36 : decode cX11_init 36 = .ok (.invokespecial 15, 3) := by decide +kernel
theorem dX11_init_39 : decode cX11_init 39 = .ok (.aastore, 1) := by decide +kernel
theorem dX11_init_40 : decode cX11_init 40 = .ok (.dup, 1) := by decide +kernel
theorem dX11_init_41 : decode cX11_init 41 = .ok (.iconst 3, 1) := by decide +kernel
theorem dX11_init_42 : decode cX11_init 42 = .ok (.new 16, 3) := by decide +kernel
theorem dX11_init_45 : decode cX11_init 45 = .ok (.dup, 1) := by decide +kernel
theorem dX11_init_46 : decode cX11_init 46 = .ok (.invokespecial 18, 3) := by decide +kernel
theorem dX11_init_49 : decode cX11_init 49 = .ok (.aastore, 1) := by decide +kernel
theorem dX11_init_50 : decode cX11_init 50 = .ok (.dup, 1) := by decide +kernel
theorem dX11_init_51 : decode cX11_init 51 = .ok (.iconst 4, 1) := by decide +kernel
theorem dX11_init_52 : decode cX11_init 52 = .ok (.new 19, 3) := by decide +kernel
theorem dX11_init_55 : decode cX11_init 55 = .ok (.dup, 1) := by decide +kernel
theorem dX11_init_56 : decode cX11_init 56 = .ok (.invokespecial 21, 3) := by decide +kernel
theorem dX11_init_59 : decode cX11_init 59 = .ok (.aastore, 1) := by decide +kernel
theorem dX11_init_60 : decode cX11_init 60 = .ok (.dup, 1) := by decide +kernel
theorem dX11_init_61 : decode cX11_init 61 = .ok (.iconst 5, 1) := by decide +kernel
theorem dX11_init_62 : decode cX11_init 62 = .ok (.new 22, 3) := by decide +kernel
theorem dX11_init_65 : decode cX11_init 65 = .ok (.dup, 1) := by decide +kernel
theorem dX11_init_66 : decode cX11_init 66 = .ok (.invokespecial 24, 3) := by decide +kernel
theorem dX11_init_69 : decode cX11_init 69 = .ok (.aastore, 1) := by decide +kernel
theorem dX11_init_70 : decode cX11_init 70 = .ok (.putfield 25, 3) := by decide +kernel
theorem dX11_init_73 : decode cX11_init 73 = .ok (.aload_n 0, 1) := by decide +kernel
theorem dX11_init_74 : decode cX11_init 74 = .ok (.new 31, 3) := by decide +kernel
theorem dX11_init_77 : decode cX11_init 77 = .ok (.dup, 1) := by decide +kernel
theorem dX11_init_78 : decode cX11_init 78 = .ok (.invokespecial 33, 3) := by decide +kernel
theorem dX11_init_81 : decode cX11_init 81 = .ok (.putfield 34, 3) := by decide +kernel
theorem dX11_init_84 : decode cX11_init 84 = .ok (.aload_n 0, 1) := by decide +kernel
theorem dX11_init_85 : decode cX11_init 85 = .ok (.new 31, 3) := by decide +kernel
theorem dX11_init_88 : decode cX11_init 88 = .ok (.dup, 1) := by decide +kernel
theorem dX11_init_89 : decode cX11_init 89 = .ok (.invokespecial 33, 3) := by decide +kernel
theorem dX11_init_92 : decode cX11_init 92 = .ok (.putfield 38, 3) := by decide +kernel
theorem dX11_init_95 : decode cX11_init 95 = .ok (.aload_n 0, 1) := by decide +kernel
theorem dX11_init_96 : decode cX11_init 96 = .ok (.iconst 2, 1) := by decide +kernel
theorem dX11_init_97 : decode cX11_init 97 = .ok (.anewarray 31, 3) := by decide +kernel
theorem dX11_init_100 : decode cX11_init 100 = .ok (.dup, 1) := by decide +kernel
theorem dX11_init_101 : decode cX11_init 101 = .ok (.iconst 0, 1) := by decide +kernel
theorem dX11_init_102 : decode cX11_init 102 = .ok (.new 31, 3) := by decide +kernel
theorem dX11_init_105 : decode cX11_init 105 = .ok (.dup, 1) := by decide +kernel
theorem dX11_init_106 : decode cX11_init 106 = .ok (.invokespecial 33, 3) := by decide +kernel
theorem dX11_init_109 : decode cX11_init 109 = .ok (.aastore, 1) := by decide +kernel
theorem dX11_init_110 : decode cX11_init 110 = .ok (.dup, 1) := by decide +kernel
theorem dX11_init_111 : decode cX11_init 111 = .ok (.iconst 1, 1) := by decide +kernel
theorem dX11_init_112 : decode cX11_init 112 = .ok (.new 31, 3) := by decide +kernel
theorem dX11_init_115 : decode cX11_init 115 = .ok (.dup, 1) := by decide +kernel
theorem dX11_init_116 : decode cX11_init 116 = .ok (.invokespecial 33, 3) := by decide +kernel
theorem dX11_init_119 : decode cX11_init 119 = .ok (.aastore, 1) := by decide +kernel
theorem dX11_init_120 : decode cX11_init 120 = .ok (.putfield 41, 3) := by decide +kernel
theorem dX11_init_123 : decode cX11_init 123 = .ok (.aload_n 0, 1) := by decide +kernel
theorem dX11_init_124 : decode cX11_init 124 = .ok (.aload_n 0, 1) := by decide +kernel
theorem dX11_init_125 : decode cX11_init 125 = .ok (.getfield 41, 3) := by decide +kernel
theorem dX11_init_128 : decode cX11_init 128 = .ok (.arraylength, 1) := by decide +kernel
theorem dX11_init_129 : decode cX11_init 129 = .ok (.newarray .boolean, 2) := by decide +kernel
theorem dX11_init_131 : decode cX11_init 131 = .ok (.putfield 45, 3) := by decide +kernel
theorem dX11_init_134 : decode cX11_init 134 = .ok (.aload_n 0, 1) := by decide +kernel
theorem dX11_init_135 : decode cX11_init 135 = .ok (.new 49, 3) := by decide +kernel
theorem dX11_init_138 : decode cX11_init 138 = .ok (.dup, 1) := by decide +kernel
theorem dX11_init_139 : decode cX11_init 139 = .ok (.invokespecial 51, 3) := by decide +kernel
theorem dX11_init_142 : decode cX11_init 142 = .ok (.putfield 52, 3) := by decide +kernel
theorem dX11_init_145 : decode cX11_init 145 = .ok (.aload_n 0, 1) := by decide +kernel
theorem dX11_init_146 : decode cX11_init 146 = .ok (.new 56, 3) := by decide +kernel
theorem dX11_init_149 : decode cX11_init 149 = .ok (.dup, 1) := by decide +kernel
theorem dX11_init_150 : decode cX11_init 150 = .ok (.invokespecial 58, 3) := by decide +kernel
theorem dX11_init_153 : decode cX11_init 153 = .ok (.putfield 59, 3) := by decide +kernel
theorem dX11_init_156 : decode cX11_init 156 = .ok (.aload_n 0, 1) := by decide +kernel
theorem dX11_init_157 : decode cX11_init 157 = .ok (.lconst 0, 1) := by decide +kernel
theorem dX11_init_158 : decode cX11_init 158 = .ok (.putfield 63, 3) := by decide +kernel
theorem dX11_init_161 : decode cX11_init 161 = .ok (.aload_n 0, 1) := by decide +kernel
theorem dX11_init_162 : decode cX11_init 162 = .ok (.lconst 1, 1) := by decide +kernel
theorem dX11_init_163 : decode cX11_init 163 = .ok (.putfield 67, 3) := by decide +kernel
theorem dX11_init_166 : decode cX11_init 166 = .ok (.return_, 1) := by decide +kernel
theorem dX11_house_0 : decode cX11_house 0 = .ok (.iload_n 1, 1) := by decide +kernel
theorem dX11_house_1 : decode cX11_house 1 = .ok (.bipush 99, 2) := by decide +kernel
theorem dX11_house_3 : decode cX11_house 3 = .ok (.invokestatic 70, 3) := by decide +kernel
theorem dX11_house_6 : decode cX11_house 6 = .ok (.ifCond .ne 10, 3) := by decide +kernel
theorem dX11_house_9 : decode cX11_house 9 = .ok (.aload_n 0, 1) := by decide +kernel
theorem dX11_house_10 : decode cX11_house 10 = .ok (.bipush (-2), 2) := by decide +kernel
theorem dX11_house_12 : decode cX11_house 12 = .ok (.invokevirtual 74, 3) := by decide +kernel
theorem dX11_house_15 : decode cX11_house 15 = .ok (.ireturn, 1) := by decide +kernel
theorem dX11_house_16 : decode cX11_house 16 = .ok (.aload_n 0, 1) := by decide +kernel
theorem dX11_house_17 : decode cX11_house 17 = .ok (.getfield 34, 3) := by decide +kernel
theorem dX11_house_20 : decode cX11_house 20 = .ok (.getfield 78, 3) := by decide +kernel
theorem dX11_house_23 : decode cX11_house 23 = .ok (.istore_n 2, 1) := by decide +kernel
theorem dX11_house_24 : decode cX11_house 24 = .ok (.aload_n 0, 1) := by decide +kernel
theorem dX11_house_25 : decode cX11_house 25 = .ok (.getfield 34, 3) := by decide +kernel
theorem dX11_house_28 : decode cX11_house 28 = .ok (.iload_n 1, 1) := by decide +kernel
theorem dX11_house_29 : decode cX11_house 29 = .ok (.invokevirtual 82, 3) := by decide +kernel
theorem dX11_house_32 : decode cX11_house 32 = .ok (.iload_n 2, 1) := by decide +kernel
theorem dX11_house_33 : decode cX11_house 33 = .ok (.ireturn, 1) := by decide +kernel
theorem dX11_deputy_0 : decode cX11_deputy 0 = .ok (.iload_n 1, 1) := by decide +kernel
theorem dX11_deputy_1 : decode cX11_deputy 1 = .ok (.iconst 5, 1) := by decide +kernel
theorem dX11_deputy_2 : decode cX11_deputy 2 = .ok (.invokestatic 70, 3) := by decide +kernel
theorem dX11_deputy_5 : decode cX11_deputy 5 = .ok (.ifCond .eq 27, 3) := by decide +kernel
theorem dX11_deputy_8 : decode cX11_deputy 8 = .ok (.iload_n 2, 1) := by decide +kernel
theorem dX11_deputy_9 : decode cX11_deputy 9 = .ok (.invokestatic 86, 3) := by decide +kernel
theorem dX11_deputy_12 : decode cX11_deputy 12 = .ok (.ifCond .eq 20, 3) := by decide +kernel
theorem dX11_deputy_15 : decode cX11_deputy 15 = .ok (.iload_n 3, 1) := by decide +kernel
theorem dX11_deputy_16 : decode cX11_deputy 16 = .ok (.invokestatic 86, 3) := by decide +kernel
theorem dX11_deputy_19 : decode cX11_deputy 19 = .ok (.ifCond .eq 13, 3) := by decide +kernel
theorem dX11_deputy_22 : decode cX11_deputy 22 = .ok (.iload 4, 2) := by decide +kernel
theorem dX11_deputy_24 : decode cX11_deputy 24 = .ok (.bipush 40, 2) := by decide +kernel
theorem dX11_deputy_26 : decode cX11_deputy 26 = .ok (.invokestatic 70, 3) := by decide +kernel
theorem dX11_deputy_29 : decode cX11_deputy 29 = .ok (.ifCond .ne 10, 3) := by decide +kernel
theorem dX11_deputy_32 : decode cX11_deputy 32 = .ok (.aload_n 0, 1) := by decide +kernel
theorem dX11_deputy_33 : decode cX11_deputy 33 = .ok (.bipush (-2), 2) := by decide +kernel
theorem dX11_deputy_35 : decode cX11_deputy 35 = .ok (.invokevirtual 74, 3) := by decide +kernel
theorem dX11_deputy_38 : decode cX11_deputy 38 = .ok (.ireturn, 1) := by decide +kernel
theorem dX11_deputy_39 : decode cX11_deputy 39 = .ok (.aload_n 0, 1) := by decide +kernel
theorem dX11_deputy_40 : decode cX11_deputy 40 = .ok (.getfield 34, 3) := by decide +kernel
theorem dX11_deputy_43 : decode cX11_deputy 43 = .ok (.getfield 78, 3) := by decide +kernel
theorem dX11_deputy_46 : decode cX11_deputy 46 = .ok (.bipush 6, 2) := by decide +kernel
theorem dX11_deputy_48 : decode cX11_deputy 48 = .ok (.if_icmp .lt 10, 3) := by decide +kernel
theorem dX11_deputy_51 : decode cX11_deputy 51 = .ok (.aload_n 0, 1) := by decide +kernel
theorem dX11_deputy_52 : decode cX11_deputy 52 = .ok (.bipush (-4), 2) := by decide +kernel
theorem dX11_deputy_54 : decode cX11_deputy 54 = .ok (.invokevirtual 74, 3) := by decide +kernel
theorem dX11_deputy_57 : decode cX11_deputy 57 = .ok (.ireturn, 1) := by decide +kernel
theorem dX11_deputy_58 : decode cX11_deputy 58 = .ok (.aload_n 0, 1) := by decide +kernel
theorem dX11_deputy_59 : decode cX11_deputy 59 = .ok (.getfield 34, 3) := by decide +kernel
theorem dX11_deputy_62 : decode cX11_deputy 62 = .ok (.iload_n 1, 1) := by decide +kernel
theorem dX11_deputy_63 : decode cX11_deputy 63 = .ok (.iload_n 2, 1) := by decide +kernel
theorem dX11_deputy_64 : decode cX11_deputy 64 = .ok (.iload_n 3, 1) := by decide +kernel
theorem dX11_deputy_65 : decode cX11_deputy 65 = .ok (.iload 4, 2) := by decide +kernel
theorem dX11_deputy_67 : decode cX11_deputy 67 = .ok (.invokevirtual 90, 3) := by decide +kernel
theorem dX11_deputy_70 : decode cX11_deputy 70 = .ok (.aload_n 0, 1) := by decide +kernel
theorem dX11_deputy_71 : decode cX11_deputy 71 = .ok (.getfield 34, 3) := by decide +kernel
theorem dX11_deputy_74 : decode cX11_deputy 74 = .ok (.getfield 78, 3) := by decide +kernel
theorem dX11_deputy_77 : decode cX11_deputy 77 = .ok (.iconst 1, 1) := by decide +kernel
theorem dX11_deputy_78 : decode cX11_deputy 78 = .ok (.isub, 1) := by decide +kernel
theorem dX11_deputy_79 : decode cX11_deputy 79 = .ok (.ireturn, 1) := by decide +kernel
theorem dX11_type_0 : decode cX11_type 0 = .ok (.iload_n 1, 1) := by decide +kernel
theorem dX11_type_1 : decode cX11_type 1 = .ok (.bipush 127, 2) := by decide +kernel
theorem dX11_type_3 : decode cX11_type 3 = .ok (.invokestatic 70, 3) := by decide +kernel
theorem dX11_type_6 : decode cX11_type 6 = .ok (.ifCond .ne 10, 3) := by decide +kernel
theorem dX11_type_9 : decode cX11_type 9 = .ok (.aload_n 0, 1) := by decide +kernel
theorem dX11_type_10 : decode cX11_type 10 = .ok (.bipush (-2), 2) := by decide +kernel
theorem dX11_type_12 : decode cX11_type 12 = .ok (.invokevirtual 74, 3) := by decide +kernel
theorem dX11_type_15 : decode cX11_type 15 = .ok (.ireturn, 1) := by decide +kernel
theorem dX11_type_16 : decode cX11_type 16 = .ok (.aload_n 0, 1) := by decide +kernel
theorem dX11_type_17 : decode cX11_type 17 = .ok (.getfield 59, 3) := by decide +kernel
theorem dX11_type_20 : decode cX11_type 20 = .ok (.getfield 94, 3) := by decide +kernel
theorem dX11_type_23 : decode cX11_type 23 = .ok (.sipush 150, 3) := by decide +kernel
theorem dX11_type_26 : decode cX11_type 26 = .ok (.if_icmp .lt 10, 3) := by decide +kernel
theorem dX11_type_29 : decode cX11_type 29 = .ok (.aload_n 0, 1) := by decide +kernel
theorem dX11_type_30 : decode cX11_type 30 = .ok (.bipush (-4), 2) := by decide +kernel
theorem dX11_type_32 : decode cX11_type 32 = .ok (.invokevirtual 74, 3) := by decide +kernel
theorem dX11_type_35 : decode cX11_type 35 = .ok (.ireturn, 1) := by decide +kernel
theorem dX11_type_36 : decode cX11_type 36 = .ok (.aload_n 0, 1) := by decide +kernel
theorem dX11_type_37 : decode cX11_type 37 = .ok (.getfield 59, 3) := by decide +kernel
theorem dX11_type_40 : decode cX11_type 40 = .ok (.iload_n 1, 1) := by decide +kernel
theorem dX11_type_41 : decode cX11_type 41 = .ok (.invokevirtual 97, 3) := by decide +kernel
theorem dX11_type_44 : decode cX11_type 44 = .ok (.aload_n 0, 1) := by decide +kernel
theorem dX11_type_45 : decode cX11_type 45 = .ok (.getfield 59, 3) := by decide +kernel
theorem dX11_type_48 : decode cX11_type 48 = .ok (.getfield 94, 3) := by decide +kernel
theorem dX11_type_51 : decode cX11_type 51 = .ok (.ireturn, 1) := by decide +kernel
theorem dX11_clear_0 : decode cX11_clear 0 = .ok (.aload_n 0, 1) := by decide +kernel
theorem dX11_clear_1 : decode cX11_clear 1 = .ok (.getfield 59, 3) := by decide +kernel
theorem dX11_clear_4 : decode cX11_clear 4 = .ok (.getfield 94, 3) := by decide +kernel
theorem dX11_clear_7 : decode cX11_clear 7 = .ok (.istore_n 1, 1) := by decide +kernel
theorem dX11_clear_8 : decode cX11_clear 8 = .ok (.aload_n 0, 1) := by decide +kernel
theorem dX11_clear_9 : decode cX11_clear 9 = .ok (.getfield 59, 3) := by decide +kernel
theorem dX11_clear_12 : decode cX11_clear 12 = .ok (.iconst 0, 1) := by decide +kernel
theorem dX11_clear_13 : decode cX11_clear 13 = .ok (.putfield 94, 3) := by decide +kernel
theorem dX11_clear_16 : decode cX11_clear 16 = .ok (.iload_n 1, 1) := by decide +kernel
theorem dX11_clear_17 : decode cX11_clear 17 = .ok (.ireturn, 1) := by decide +kernel
theorem dX11_read_0 : decode cX11_read 0 = .ok (.aload_n 0, 1) := by decide +kernel
theorem dX11_read_1 : decode cX11_read 1 = .ok (.getfield 38, 3) := by decide +kernel
theorem dX11_read_4 : decode cX11_read 4 = .ok (.aload_n 0, 1) := by decide +kernel
theorem dX11_read_5 : decode cX11_read 5 = .ok (.getfield 59, 3) := by decide +kernel
theorem dX11_read_8 : decode cX11_read 8 = .ok (.invokevirtual 100, 3) := by decide +kernel
theorem dX11_read_11 : decode cX11_read 11 = .ok (.istore_n 1, 1) := by decide +kernel
theorem dX11_read_12 : decode cX11_read 12 = .ok (.iload_n 1, 1) := by decide +kernel
theorem dX11_read_13 : decode cX11_read 13 = .ok (.ifCond .le 14, 3) := by decide +kernel
theorem dX11_read_16 : decode cX11_read 16 = .ok (.aload_n 0, 1) := by decide +kernel
theorem dX11_read_17 : decode cX11_read 17 = .ok (.getfield 34, 3) := by decide +kernel
theorem dX11_read_20 : decode cX11_read 20 = .ok (.aload_n 0, 1) := by decide +kernel
theorem dX11_read_21 : decode cX11_read 21 = .ok (.getfield 38, 3) := by decide +kernel
theorem dX11_read_24 : decode cX11_read 24 = .ok (.invokevirtual 104, 3) := by decide +kernel
theorem dX11_read_27 : decode cX11_read 27 = .ok (.iload_n 1, 1) := by decide +kernel
theorem dX11_read_28 : decode cX11_read 28 = .ok (.ireturn, 1) := by decide +kernel
theorem dX11_moves_0 : decode cX11_moves 0 = .ok (.iload_n 1, 1) := by decide +kernel
theorem dX11_moves_1 : decode cX11_moves 1 = .ok (.invokestatic 86, 3) := by decide +kernel
theorem dX11_moves_4 : decode cX11_moves 4 = .ok (.ifCond .eq 7, 3) := by decide +kernel
theorem dX11_moves_7 : decode cX11_moves 7 = .ok (.iload_n 1, 1) := by decide +kernel
theorem dX11_moves_8 : decode cX11_moves 8 = .ok (.ifCond .ne 10, 3) := by decide +kernel
theorem dX11_moves_11 : decode cX11_moves 11 = .ok (.aload_n 0, 1) := by decide +kernel
theorem dX11_moves_12 : decode cX11_moves 12 = .ok (.bipush (-2), 2) := by decide +kernel
theorem dX11_moves_14 : decode cX11_moves 14 = .ok (.invokevirtual 74, 3) := by decide +kernel
theorem dX11_moves_17 : decode cX11_moves 17 = .ok (.ireturn, 1) := by decide +kernel
theorem dX11_moves_18 : decode cX11_moves 18 = .ok (.iload_n 1, 1) := by decide +kernel
theorem dX11_moves_19 : decode cX11_moves 19 = .ok (.aload_n 0, 1) := by decide +kernel
theorem dX11_moves_20 : decode cX11_moves 20 = .ok (.getfield 34, 3) := by decide +kernel
theorem dX11_moves_23 : decode cX11_moves 23 = .ok (.getfield 108, 3) := by decide +kernel
theorem dX11_moves_26 : decode cX11_moves 26 = .ok (.invokevirtual 111, 3) := by decide +kernel
theorem dX11_moves_29 : decode cX11_moves 29 = .ok (.iconst (-1), 1) := by decide +kernel
theorem dX11_moves_30 : decode cX11_moves 30 = .ok (.ixor, 1) := by decide +kernel
theorem dX11_moves_31 : decode cX11_moves 31 = .ok (.iand, 1) := by decide +kernel
theorem dX11_moves_32 : decode cX11_moves 32 = .ok (.ifCond .eq 10, 3) := by decide +kernel
theorem dX11_moves_35 : decode cX11_moves 35 = .ok (.aload_n 0, 1) := by decide +kernel
theorem dX11_moves_36 : decode cX11_moves 36 = .ok (.bipush (-3), 2) := by decide +kernel
theorem dX11_moves_38 : decode cX11_moves 38 = .ok (.invokevirtual 74, 3) := by decide +kernel
theorem dX11_moves_41 : decode cX11_moves 41 = .ok (.ireturn, 1) := by decide +kernel
theorem dX11_moves_42 : decode cX11_moves 42 = .ok (.aload_n 0, 1) := by decide +kernel
theorem dX11_moves_43 : decode cX11_moves 43 = .ok (.getfield 34, 3) := by decide +kernel
theorem dX11_moves_46 : decode cX11_moves 46 = .ok (.invokevirtual 115, 3) := by decide +kernel
theorem dX11_moves_49 : decode cX11_moves 49 = .ok (.aload_n 0, 1) := by decide +kernel
theorem dX11_moves_50 : decode cX11_moves 50 = .ok (.aload_n 0, 1) := by decide +kernel
theorem dX11_moves_51 : decode cX11_moves 51 = .ok (.getfield 34, 3) := by decide +kernel
theorem dX11_moves_54 : decode cX11_moves 54 = .ok (.getfield 108, 3) := by decide +kernel
theorem dX11_moves_57 : decode cX11_moves 57 = .ok (.iload_n 1, 1) := by decide +kernel
theorem dX11_moves_58 : decode cX11_moves 58 = .ok (.invokevirtual 118, 3) := by decide +kernel
theorem dX11_moves_61 : decode cX11_moves 61 = .ok (.ireturn, 1) := by decide +kernel
theorem dX11_end_0 : decode cX11_end 0 = .ok (.aload_n 0, 1) := by decide +kernel
theorem dX11_end_1 : decode cX11_end 1 = .ok (.getfield 34, 3) := by decide +kernel
theorem dX11_end_4 : decode cX11_end 4 = .ok (.invokevirtual 115, 3) := by decide +kernel
theorem dX11_end_7 : decode cX11_end 7 = .ok (.aload_n 0, 1) := by decide +kernel
theorem dX11_end_8 : decode cX11_end 8 = .ok (.getfield 34, 3) := by decide +kernel
theorem dX11_end_11 : decode cX11_end 11 = .ok (.getfield 108, 3) := by decide +kernel
theorem dX11_end_14 : decode cX11_end 14 = .ok (.invokevirtual 122, 3) := by decide +kernel
theorem dX11_end_17 : decode cX11_end 17 = .ok (.aload_n 0, 1) := by decide +kernel
theorem dX11_end_18 : decode cX11_end 18 = .ok (.getfield 34, 3) := by decide +kernel
theorem dX11_end_21 : decode cX11_end 21 = .ok (.getfield 108, 3) := by decide +kernel
theorem dX11_end_24 : decode cX11_end 24 = .ok (.getfield 125, 3) := by decide +kernel
theorem dX11_end_27 : decode cX11_end 27 = .ok (.ireturn, 1) := by decide +kernel
theorem dX11_buy_0 : decode cX11_buy 0 = .ok (.aload_n 0, 1) := by decide +kernel
theorem dX11_buy_1 : decode cX11_buy 1 = .ok (.getfield 34, 3) := by decide +kernel
theorem dX11_buy_4 : decode cX11_buy 4 = .ok (.iload_n 1, 1) := by decide +kernel
theorem dX11_buy_5 : decode cX11_buy 5 = .ok (.invokevirtual 128, 3) := by decide +kernel
theorem dX11_buy_8 : decode cX11_buy 8 = .ok (.astore_n 2, 1) := by decide +kernel
theorem dX11_buy_9 : decode cX11_buy 9 = .ok (.aload_n 2, 1) := by decide +kernel
theorem dX11_buy_10 : decode cX11_buy 10 = .ok (.ifnonnull 10, 3) := by decide +kernel
theorem dX11_buy_13 : decode cX11_buy 13 = .ok (.aload_n 0, 1) := by decide +kernel
theorem dX11_buy_14 : decode cX11_buy 14 = .ok (.bipush (-2), 2) := by decide +kernel
theorem dX11_buy_16 : decode cX11_buy 16 = .ok (.invokevirtual 74, 3) := by decide +kernel
theorem dX11_buy_19 : decode cX11_buy 19 = .ok (.ireturn, 1) := by decide +kernel
theorem dX11_buy_20 : decode cX11_buy 20 = .ok (.aload_n 0, 1) := by decide +kernel
theorem dX11_buy_21 : decode cX11_buy 21 = .ok (.getfield 34, 3) := by decide +kernel
theorem dX11_buy_24 : decode cX11_buy 24 = .ok (.getfield 108, 3) := by decide +kernel
theorem dX11_buy_27 : decode cX11_buy 27 = .ok (.getfield 132, 3) := by decide +kernel
theorem dX11_buy_30 : decode cX11_buy 30 = .ok (.iload_n 1, 1) := by decide +kernel
theorem dX11_buy_31 : decode cX11_buy 31 = .ok (.invokestatic 135, 3) := by decide +kernel
theorem dX11_buy_34 : decode cX11_buy 34 = .ok (.iand, 1) := by decide +kernel
theorem dX11_buy_35 : decode cX11_buy 35 = .ok (.ifCond .eq 10, 3) := by decide +kernel
theorem dX11_buy_38 : decode cX11_buy 38 = .ok (.aload_n 0, 1) := by decide +kernel
theorem dX11_buy_39 : decode cX11_buy 39 = .ok (.bipush (-3), 2) := by decide +kernel
theorem dX11_buy_41 : decode cX11_buy 41 = .ok (.invokevirtual 74, 3) := by decide +kernel
theorem dX11_buy_44 : decode cX11_buy 44 = .ok (.ireturn, 1) := by decide +kernel
theorem dX11_buy_45 : decode cX11_buy 45 = .ok (.aload_n 0, 1) := by decide +kernel
theorem dX11_buy_46 : decode cX11_buy 46 = .ok (.getfield 34, 3) := by decide +kernel
theorem dX11_buy_49 : decode cX11_buy 49 = .ok (.invokevirtual 115, 3) := by decide +kernel
theorem dX11_buy_52 : decode cX11_buy 52 = .ok (.aload_n 0, 1) := by decide +kernel
theorem dX11_buy_53 : decode cX11_buy 53 = .ok (.aload_n 2, 1) := by decide +kernel
theorem dX11_buy_54 : decode cX11_buy 54 = .ok (.invokevirtual 138, 3) := by decide +kernel
theorem dX11_buy_57 : decode cX11_buy 57 = .ok (.istore_n 3, 1) := by decide +kernel
theorem dX11_buy_58 : decode cX11_buy 58 = .ok (.aload_n 0, 1) := by decide +kernel
theorem dX11_buy_59 : decode cX11_buy 59 = .ok (.getfield 34, 3) := by decide +kernel
theorem dX11_buy_62 : decode cX11_buy 62 = .ok (.getfield 108, 3) := by decide +kernel
theorem dX11_buy_65 : decode cX11_buy 65 = .ok (.dup, 1) := by decide +kernel
theorem dX11_buy_66 : decode cX11_buy 66 = .ok (.getfield 132, 3) := by decide +kernel
theorem dX11_buy_69 : decode cX11_buy 69 = .ok (.iload_n 1, 1) := by decide +kernel
theorem dX11_buy_70 : decode cX11_buy 70 = .ok (.invokestatic 135, 3) := by decide +kernel
theorem dX11_buy_73 : decode cX11_buy 73 = .ok (.ior, 1) := by decide +kernel
theorem dX11_buy_74 : decode cX11_buy 74 = .ok (.putfield 132, 3) := by decide +kernel
theorem dX11_buy_77 : decode cX11_buy 77 = .ok (.aload_n 0, 1) := by decide +kernel
theorem dX11_buy_78 : decode cX11_buy 78 = .ok (.getfield 34, 3) := by decide +kernel
theorem dX11_buy_81 : decode cX11_buy 81 = .ok (.getfield 108, 3) := by decide +kernel
theorem dX11_buy_84 : decode cX11_buy 84 = .ok (.dup, 1) := by decide +kernel
theorem dX11_buy_85 : decode cX11_buy 85 = .ok (.getfield 142, 3) := by decide +kernel
theorem dX11_buy_88 : decode cX11_buy 88 = .ok (.iload_n 3, 1) := by decide +kernel
theorem dX11_buy_89 : decode cX11_buy 89 = .ok (.iadd, 1) := by decide +kernel
theorem dX11_buy_90 : decode cX11_buy 90 = .ok (.putfield 142, 3) := by decide +kernel
theorem dX11_buy_93 : decode cX11_buy 93 = .ok (.iload_n 3, 1) := by decide +kernel
theorem dX11_buy_94 : decode cX11_buy 94 = .ok (.ireturn, 1) := by decide +kernel
theorem dX11_lock_0 : decode cX11_lock 0 = .ok (.aload_n 0, 1) := by decide +kernel
theorem dX11_lock_1 : decode cX11_lock 1 = .ok (.getfield 34, 3) := by decide +kernel
theorem dX11_lock_4 : decode cX11_lock 4 = .ok (.iload_n 1, 1) := by decide +kernel
theorem dX11_lock_5 : decode cX11_lock 5 = .ok (.invokevirtual 128, 3) := by decide +kernel
theorem dX11_lock_8 : decode cX11_lock 8 = .ok (.ifnonnull 10, 3) := by decide +kernel
theorem dX11_lock_11 : decode cX11_lock 11 = .ok (.aload_n 0, 1) := by decide +kernel
theorem dX11_lock_12 : decode cX11_lock 12 = .ok (.bipush (-2), 2) := by decide +kernel
theorem dX11_lock_14 : decode cX11_lock 14 = .ok (.invokevirtual 74, 3) := by decide +kernel
theorem dX11_lock_17 : decode cX11_lock 17 = .ok (.ireturn, 1) := by decide +kernel
theorem dX11_lock_18 : decode cX11_lock 18 = .ok (.aload_n 0, 1) := by decide +kernel
theorem dX11_lock_19 : decode cX11_lock 19 = .ok (.getfield 34, 3) := by decide +kernel
theorem dX11_lock_22 : decode cX11_lock 22 = .ok (.getfield 108, 3) := by decide +kernel
theorem dX11_lock_25 : decode cX11_lock 25 = .ok (.getfield 145, 3) := by decide +kernel
theorem dX11_lock_28 : decode cX11_lock 28 = .ok (.ifCond .eq 10, 3) := by decide +kernel
theorem dX11_lock_31 : decode cX11_lock 31 = .ok (.aload_n 0, 1) := by decide +kernel
theorem dX11_lock_32 : decode cX11_lock 32 = .ok (.bipush (-3), 2) := by decide +kernel
theorem dX11_lock_34 : decode cX11_lock 34 = .ok (.invokevirtual 74, 3) := by decide +kernel
theorem dX11_lock_37 : decode cX11_lock 37 = .ok (.ireturn, 1) := by decide +kernel
theorem dX11_lock_38 : decode cX11_lock 38 = .ok (.aload_n 0, 1) := by decide +kernel
theorem dX11_lock_39 : decode cX11_lock 39 = .ok (.getfield 34, 3) := by decide +kernel
theorem dX11_lock_42 : decode cX11_lock 42 = .ok (.invokevirtual 115, 3) := by decide +kernel
theorem dX11_lock_45 : decode cX11_lock 45 = .ok (.aload_n 0, 1) := by decide +kernel
theorem dX11_lock_46 : decode cX11_lock 46 = .ok (.getfield 34, 3) := by decide +kernel
theorem dX11_lock_49 : decode cX11_lock 49 = .ok (.getfield 108, 3) := by decide +kernel
theorem dX11_lock_52 : decode cX11_lock 52 = .ok (.iload_n 1, 1) := by decide +kernel
theorem dX11_lock_53 : decode cX11_lock 53 = .ok (.invokestatic 135, 3) := by decide +kernel
theorem dX11_lock_56 : decode cX11_lock 56 = .ok (.putfield 145, 3) := by decide +kernel
theorem dX11_lock_59 : decode cX11_lock 59 = .ok (.iconst 1, 1) := by decide +kernel
theorem dX11_lock_60 : decode cX11_lock 60 = .ok (.ireturn, 1) := by decide +kernel
theorem dX11_undo_0 : decode cX11_undo 0 = .ok (.aload_n 0, 1) := by decide +kernel
theorem dX11_undo_1 : decode cX11_undo 1 = .ok (.getfield 34, 3) := by decide +kernel
theorem dX11_undo_4 : decode cX11_undo 4 = .ok (.getfield 148, 3) := by decide +kernel
theorem dX11_undo_7 : decode cX11_undo 7 = .ok (.ifCond .ne 10, 3) := by decide +kernel
theorem dX11_undo_10 : decode cX11_undo 10 = .ok (.aload_n 0, 1) := by decide +kernel
theorem dX11_undo_11 : decode cX11_undo 11 = .ok (.bipush (-3), 2) := by decide +kernel
theorem dX11_undo_13 : decode cX11_undo 13 = .ok (.invokevirtual 74, 3) := by decide +kernel
theorem dX11_undo_16 : decode cX11_undo 16 = .ok (.ireturn, 1) := by decide +kernel
theorem dX11_undo_17 : decode cX11_undo 17 = .ok (.aload_n 0, 1) := by decide +kernel
theorem dX11_undo_18 : decode cX11_undo 18 = .ok (.getfield 34, 3) := by decide +kernel
theorem dX11_undo_21 : decode cX11_undo 21 = .ok (.invokevirtual 151, 3) := by decide +kernel
theorem dX11_undo_24 : decode cX11_undo 24 = .ok (.aload_n 0, 1) := by decide +kernel
theorem dX11_undo_25 : decode cX11_undo 25 = .ok (.getfield 34, 3) := by decide +kernel
theorem dX11_undo_28 : decode cX11_undo 28 = .ok (.getfield 108, 3) := by decide +kernel
theorem dX11_undo_31 : decode cX11_undo 31 = .ok (.getfield 154, 3) := by decide +kernel
theorem dX11_undo_34 : decode cX11_undo 34 = .ok (.ireturn, 1) := by decide +kernel
theorem dX11_of_0 : decode cX11_of 0 = .ok (.aload_n 0, 1) := by decide +kernel
theorem dX11_of_1 : decode cX11_of 1 = .ok (.getfield 34, 3) := by decide +kernel
theorem dX11_of_4 : decode cX11_of 4 = .ok (.iload_n 1, 1) := by decide +kernel
theorem dX11_of_5 : decode cX11_of 5 = .ok (.invokevirtual 128, 3) := by decide +kernel
theorem dX11_of_8 : decode cX11_of 8 = .ok (.astore_n 3, 1) := by decide +kernel
theorem dX11_of_9 : decode cX11_of 9 = .ok (.aload_n 3, 1) := by decide +kernel
theorem dX11_of_10 : decode cX11_of 10 = .ok (.ifnonnull 10, 3) := by decide +kernel
theorem dX11_of_13 : decode cX11_of 13 = .ok (.aload_n 0, 1) := by decide +kernel
theorem dX11_of_14 : decode cX11_of 14 = .ok (.bipush (-2), 2) := by decide +kernel
theorem dX11_of_16 : decode cX11_of 16 = .ok (.invokevirtual 74, 3) := by decide +kernel
theorem dX11_of_19 : decode cX11_of 19 = .ok (.ireturn, 1) := by decide +kernel
theorem dX11_of_20 : decode cX11_of 20 = .ok (.iload_n 2, 1) := by decide +kernel
theorem dX11_of_21 : decode cX11_of 21 = .ok (.tableswitch 123 0 6 #[43, 48, 53, 58, 63, 69, 96], 43) := by decide +kernel
theorem dX11_of_64 : decode cX11_of 64 = .ok (.aload_n 3, 1) := by decide +kernel
theorem dX11_of_65 : decode cX11_of 65 = .ok (.getfield 157, 3) := by decide +kernel
theorem dX11_of_68 : decode cX11_of 68 = .ok (.ireturn, 1) := by decide +kernel
theorem dX11_of_69 : decode cX11_of 69 = .ok (.aload_n 3, 1) := by decide +kernel
theorem dX11_of_70 : decode cX11_of 70 = .ok (.getfield 162, 3) := by decide +kernel
theorem dX11_of_73 : decode cX11_of 73 = .ok (.ireturn, 1) := by decide +kernel
theorem dX11_of_74 : decode cX11_of 74 = .ok (.aload_n 3, 1) := by decide +kernel
theorem dX11_of_75 : decode cX11_of 75 = .ok (.getfield 165, 3) := by decide +kernel
theorem dX11_of_78 : decode cX11_of 78 = .ok (.ireturn, 1) := by decide +kernel
theorem dX11_of_79 : decode cX11_of 79 = .ok (.aload_n 3, 1) := by decide +kernel
theorem dX11_of_80 : decode cX11_of 80 = .ok (.getfield 168, 3) := by decide +kernel
theorem dX11_of_83 : decode cX11_of 83 = .ok (.ireturn, 1) := by decide +kernel
theorem dX11_of_84 : decode cX11_of 84 = .ok (.aload_n 0, 1) := by decide +kernel
theorem dX11_of_85 : decode cX11_of 85 = .ok (.aload_n 3, 1) := by decide +kernel
theorem dX11_of_86 : decode cX11_of 86 = .ok (.invokevirtual 138, 3) := by decide +kernel
theorem dX11_of_89 : decode cX11_of 89 = .ok (.ireturn, 1) := by decide +kernel
theorem dX11_of_90 : decode cX11_of 90 = .ok (.aload_n 0, 1) := by decide +kernel
theorem dX11_of_91 : decode cX11_of 91 = .ok (.getfield 34, 3) := by decide +kernel
theorem dX11_of_94 : decode cX11_of 94 = .ok (.getfield 108, 3) := by decide +kernel
theorem dX11_of_97 : decode cX11_of 97 = .ok (.getfield 132, 3) := by decide +kernel
theorem dX11_of_100 : decode cX11_of 100 = .ok (.iload_n 1, 1) := by decide +kernel
theorem dX11_of_101 : decode cX11_of 101 = .ok (.invokestatic 135, 3) := by decide +kernel
theorem dX11_of_104 : decode cX11_of 104 = .ok (.iand, 1) := by decide +kernel
theorem dX11_of_105 : decode cX11_of 105 = .ok (.ifCond .eq 7, 3) := by decide +kernel
theorem dX11_of_108 : decode cX11_of 108 = .ok (.iconst 1, 1) := by decide +kernel
theorem dX11_of_109 : decode cX11_of 109 = .ok (.goto 4, 3) := by decide +kernel
theorem dX11_of_112 : decode cX11_of 112 = .ok (.iconst 0, 1) := by decide +kernel
theorem dX11_of_113 : decode cX11_of 113 = .ok (.invokestatic 171, 3) := by decide +kernel
theorem dX11_of_116 : decode cX11_of 116 = .ok (.ireturn, 1) := by decide +kernel
theorem dX11_of_117 : decode cX11_of 117 = .ok (.aload_n 0, 1) := by decide +kernel
theorem dX11_of_118 : decode cX11_of 118 = .ok (.getfield 34, 3) := by decide +kernel
theorem dX11_of_121 : decode cX11_of 121 = .ok (.getfield 108, 3) := by decide +kernel
theorem dX11_of_124 : decode cX11_of 124 = .ok (.getfield 145, 3) := by decide +kernel
theorem dX11_of_127 : decode cX11_of 127 = .ok (.iload_n 1, 1) := by decide +kernel
theorem dX11_of_128 : decode cX11_of 128 = .ok (.invokestatic 135, 3) := by decide +kernel
theorem dX11_of_131 : decode cX11_of 131 = .ok (.iand, 1) := by decide +kernel
theorem dX11_of_132 : decode cX11_of 132 = .ok (.ifCond .eq 7, 3) := by decide +kernel
theorem dX11_of_135 : decode cX11_of 135 = .ok (.iconst 1, 1) := by decide +kernel
theorem dX11_of_136 : decode cX11_of 136 = .ok (.goto 4, 3) := by decide +kernel
theorem dX11_of_139 : decode cX11_of 139 = .ok (.iconst 0, 1) := by decide +kernel
theorem dX11_of_140 : decode cX11_of 140 = .ok (.invokestatic 171, 3) := by decide +kernel
theorem dX11_of_143 : decode cX11_of 143 = .ok (.ireturn, 1) := by decide +kernel
theorem dX11_of_144 : decode cX11_of 144 = .ok (.aload_n 0, 1) := by decide +kernel
theorem dX11_of_145 : decode cX11_of 145 = .ok (.bipush (-2), 2) := by decide +kernel
theorem dX11_of_147 : decode cX11_of 147 = .ok (.invokevirtual 74, 3) := by decide +kernel
theorem dX11_of_150 : decode cX11_of 150 = .ok (.ireturn, 1) := by decide +kernel
theorem dX11_joy_0 : decode cX11_joy 0 = .ok (.aload_n 0, 1) := by decide +kernel
theorem dX11_joy_1 : decode cX11_joy 1 = .ok (.getfield 34, 3) := by decide +kernel
theorem dX11_joy_4 : decode cX11_joy 4 = .ok (.iload_n 1, 1) := by decide +kernel
theorem dX11_joy_5 : decode cX11_joy 5 = .ok (.invokevirtual 128, 3) := by decide +kernel
theorem dX11_joy_8 : decode cX11_joy 8 = .ok (.astore_n 3, 1) := by decide +kernel
theorem dX11_joy_9 : decode cX11_joy 9 = .ok (.aload_n 3, 1) := by decide +kernel
theorem dX11_joy_10 : decode cX11_joy 10 = .ok (.ifnull 10, 3) := by decide +kernel
theorem dX11_joy_13 : decode cX11_joy 13 = .ok (.iload_n 2, 1) := by decide +kernel
theorem dX11_joy_14 : decode cX11_joy 14 = .ok (.invokestatic 86, 3) := by decide +kernel
theorem dX11_joy_17 : decode cX11_joy 17 = .ok (.ifCond .ne 14, 3) := by decide +kernel
theorem dX11_joy_20 : decode cX11_joy 20 = .ok (.aload_n 0, 1) := by decide +kernel
theorem dX11_joy_21 : decode cX11_joy 21 = .ok (.bipush (-2), 2) := by decide +kernel
theorem dX11_joy_23 : decode cX11_joy 23 = .ok (.invokevirtual 74, 3) := by decide +kernel
theorem dX11_joy_26 : decode cX11_joy 26 = .ok (.pop, 1) := by decide +kernel
theorem dX11_joy_27 : decode cX11_joy 27 = .ok (.sipush (-1000), 3) := by decide +kernel
theorem dX11_joy_30 : decode cX11_joy 30 = .ok (.ireturn, 1) := by decide +kernel
theorem dX11_joy_31 : decode cX11_joy 31 = .ok (.aload_n 0, 1) := by decide +kernel
theorem dX11_joy_32 : decode cX11_joy 32 = .ok (.aload_n 3, 1) := by decide +kernel
theorem dX11_joy_33 : decode cX11_joy 33 = .ok (.iload_n 2, 1) := by decide +kernel
theorem dX11_joy_34 : decode cX11_joy 34 = .ok (.invokevirtual 175, 3) := by decide +kernel
theorem dX11_joy_37 : decode cX11_joy 37 = .ok (.ireturn, 1) := by decide +kernel
theorem dX11_acts_0 : decode cX11_acts 0 = .ok (.iload_n 1, 1) := by decide +kernel
theorem dX11_acts_1 : decode cX11_acts 1 = .ok (.lookupswitch 49 #[(0, 27), (1, 38)], 27) := by decide +kernel
theorem dX11_acts_28 : decode cX11_acts 28 = .ok (.aload_n 0, 1) := by decide +kernel
theorem dX11_acts_29 : decode cX11_acts 29 = .ok (.getfield 34, 3) := by decide +kernel
theorem dX11_acts_32 : decode cX11_acts 32 = .ok (.getfield 108, 3) := by decide +kernel
theorem dX11_acts_35 : decode cX11_acts 35 = .ok (.getfield 179, 3) := by decide +kernel
theorem dX11_acts_38 : decode cX11_acts 38 = .ok (.ireturn, 1) := by decide +kernel
theorem dX11_acts_39 : decode cX11_acts 39 = .ok (.aload_n 0, 1) := by decide +kernel
theorem dX11_acts_40 : decode cX11_acts 40 = .ok (.getfield 34, 3) := by decide +kernel
theorem dX11_acts_43 : decode cX11_acts 43 = .ok (.getfield 108, 3) := by decide +kernel
theorem dX11_acts_46 : decode cX11_acts 46 = .ok (.getfield 125, 3) := by decide +kernel
theorem dX11_acts_49 : decode cX11_acts 49 = .ok (.ireturn, 1) := by decide +kernel
theorem dX11_acts_50 : decode cX11_acts 50 = .ok (.aload_n 0, 1) := by decide +kernel
theorem dX11_acts_51 : decode cX11_acts 51 = .ok (.bipush (-2), 2) := by decide +kernel
theorem dX11_acts_53 : decode cX11_acts 53 = .ok (.invokevirtual 74, 3) := by decide +kernel
theorem dX11_acts_56 : decode cX11_acts 56 = .ok (.ireturn, 1) := by decide +kernel
theorem dX11_stops_0 : decode cX11_stops 0 = .ok (.iload_n 1, 1) := by decide +kernel
theorem dX11_stops_1 : decode cX11_stops 1 = .ok (.invokestatic 86, 3) := by decide +kernel
theorem dX11_stops_4 : decode cX11_stops 4 = .ok (.ifCond .eq 18, 3) := by decide +kernel
theorem dX11_stops_7 : decode cX11_stops 7 = .ok (.aload_n 0, 1) := by decide +kernel
theorem dX11_stops_8 : decode cX11_stops 8 = .ok (.aload_n 0, 1) := by decide +kernel
theorem dX11_stops_9 : decode cX11_stops 9 = .ok (.getfield 34, 3) := by decide +kernel
theorem dX11_stops_12 : decode cX11_stops 12 = .ok (.getfield 108, 3) := by decide +kernel
theorem dX11_stops_15 : decode cX11_stops 15 = .ok (.iload_n 1, 1) := by decide +kernel
theorem dX11_stops_16 : decode cX11_stops 16 = .ok (.invokevirtual 182, 3) := by decide +kernel
theorem dX11_stops_19 : decode cX11_stops 19 = .ok (.goto 9, 3) := by decide +kernel
theorem dX11_stops_22 : decode cX11_stops 22 = .ok (.aload_n 0, 1) := by decide +kernel
theorem dX11_stops_23 : decode cX11_stops 23 = .ok (.bipush (-2), 2) := by decide +kernel
theorem dX11_stops_25 : decode cX11_stops 25 = .ok (.invokevirtual 74, 3) := by decide +kernel
theorem dX11_stops_28 : decode cX11_stops 28 = .ok (.ireturn, 1) := by decide +kernel
theorem dX11_most_0 : decode cX11_most 0 = .ok (.aload_n 0, 1) := by decide +kernel
theorem dX11_most_1 : decode cX11_most 1 = .ok (.iconst (-1), 1) := by decide +kernel
theorem dX11_most_2 : decode cX11_most 2 = .ok (.iconst 0, 1) := by decide +kernel
theorem dX11_most_3 : decode cX11_most 3 = .ok (.invokevirtual 185, 3) := by decide +kernel
theorem dX11_most_6 : decode cX11_most 6 = .ok (.ireturn, 1) := by decide +kernel
theorem dX11_money_0 : decode cX11_money 0 = .ok (.iload_n 1, 1) := by decide +kernel
theorem dX11_money_1 : decode cX11_money 1 = .ok (.sipush 200, 3) := by decide +kernel
theorem dX11_money_4 : decode cX11_money 4 = .ok (.invokestatic 70, 3) := by decide +kernel
theorem dX11_money_7 : decode cX11_money 7 = .ok (.ifCond .eq 11, 3) := by decide +kernel
theorem dX11_money_10 : decode cX11_money 10 = .ok (.iload_n 2, 1) := by decide +kernel
theorem dX11_money_11 : decode cX11_money 11 = .ok (.iconst 2, 1) := by decide +kernel
theorem dX11_money_12 : decode cX11_money 12 = .ok (.invokestatic 70, 3) := by decide +kernel
theorem dX11_money_15 : decode cX11_money 15 = .ok (.ifCond .ne 10, 3) := by decide +kernel
theorem dX11_money_18 : decode cX11_money 18 = .ok (.aload_n 0, 1) := by decide +kernel
theorem dX11_money_19 : decode cX11_money 19 = .ok (.bipush (-2), 2) := by decide +kernel
theorem dX11_money_21 : decode cX11_money 21 = .ok (.invokevirtual 74, 3) := by decide +kernel
theorem dX11_money_24 : decode cX11_money 24 = .ok (.ireturn, 1) := by decide +kernel
theorem dX11_money_25 : decode cX11_money 25 = .ok (.aload_n 0, 1) := by decide +kernel
theorem dX11_money_26 : decode cX11_money 26 = .ok (.iload_n 1, 1) := by decide +kernel
theorem dX11_money_27 : decode cX11_money 27 = .ok (.iconst 0, 1) := by decide +kernel
theorem dX11_money_28 : decode cX11_money 28 = .ok (.invokevirtual 185, 3) := by decide +kernel
theorem dX11_money_31 : decode cX11_money 31 = .ok (.istore_n 3, 1) := by decide +kernel
theorem dX11_money_32 : decode cX11_money 32 = .ok (.iload_n 2, 1) := by decide +kernel
theorem dX11_money_33 : decode cX11_money 33 = .ok (.ifCond .ne 5, 3) := by decide +kernel
theorem dX11_money_36 : decode cX11_money 36 = .ok (.iload_n 3, 1) := by decide +kernel
theorem dX11_money_37 : decode cX11_money 37 = .ok (.ireturn, 1) := by decide +kernel
theorem dX11_money_38 : decode cX11_money 38 = .ok (.aload_n 0, 1) := by decide +kernel
theorem dX11_money_39 : decode cX11_money 39 = .ok (.aload_n 0, 1) := by decide +kernel
theorem dX11_money_40 : decode cX11_money 40 = .ok (.getfield 34, 3) := by decide +kernel
theorem dX11_money_43 : decode cX11_money 43 = .ok (.getfield 108, 3) := by decide +kernel
theorem dX11_money_46 : decode cX11_money 46 = .ok (.iload_n 3, 1) := by decide +kernel
theorem dX11_money_47 : decode cX11_money 47 = .ok (.invokevirtual 182, 3) := by decide +kernel
theorem dX11_money_50 : decode cX11_money 50 = .ok (.istore 4, 2) := by decide +kernel
theorem dX11_money_52 : decode cX11_money 52 = .ok (.iload_n 2, 1) := by decide +kernel
theorem dX11_money_53 : decode cX11_money 53 = .ok (.iconst 1, 1) := by decide +kernel
theorem dX11_money_54 : decode cX11_money 54 = .ok (.if_icmp .ne 12, 3) := by decide +kernel
theorem dX11_money_57 : decode cX11_money 57 = .ok (.aload_n 0, 1) := by decide +kernel
theorem dX11_money_58 : decode cX11_money 58 = .ok (.iload 4, 2) := by decide +kernel
theorem dX11_money_60 : decode cX11_money 60 = .ok (.invokevirtual 189, 3) := by decide +kernel
theorem dX11_money_63 : decode cX11_money 63 = .ok (.goto 5, 3) := by decide +kernel
theorem dX11_money_66 : decode cX11_money 66 = .ok (.iload 4, 2) := by decide +kernel
theorem dX11_money_68 : decode cX11_money 68 = .ok (.ireturn, 1) := by decide +kernel
theorem dX11_tied_0 : decode cX11_tied 0 = .ok (.iload_n 1, 1) := by decide +kernel
theorem dX11_tied_1 : decode cX11_tied 1 = .ok (.invokestatic 86, 3) := by decide +kernel
theorem dX11_tied_4 : decode cX11_tied 4 = .ok (.ifCond .eq 11, 3) := by decide +kernel
theorem dX11_tied_7 : decode cX11_tied 7 = .ok (.iload_n 1, 1) := by decide +kernel
theorem dX11_tied_8 : decode cX11_tied 8 = .ok (.invokestatic 192, 3) := by decide +kernel
theorem dX11_tied_11 : decode cX11_tied 11 = .ok (.iconst 2, 1) := by decide +kernel
theorem dX11_tied_12 : decode cX11_tied 12 = .ok (.if_icmp .ge 10, 3) := by decide +kernel
theorem dX11_tied_15 : decode cX11_tied 15 = .ok (.aload_n 0, 1) := by decide +kernel
theorem dX11_tied_16 : decode cX11_tied 16 = .ok (.bipush (-2), 2) := by decide +kernel
theorem dX11_tied_18 : decode cX11_tied 18 = .ok (.invokevirtual 74, 3) := by decide +kernel
theorem dX11_tied_21 : decode cX11_tied 21 = .ok (.ireturn, 1) := by decide +kernel
theorem dX11_tied_22 : decode cX11_tied 22 = .ok (.iload_n 1, 1) := by decide +kernel
theorem dX11_tied_23 : decode cX11_tied 23 = .ok (.iload_n 1, 1) := by decide +kernel
theorem dX11_tied_24 : decode cX11_tied 24 = .ok (.ineg, 1) := by decide +kernel
theorem dX11_tied_25 : decode cX11_tied 25 = .ok (.iand, 1) := by decide +kernel
theorem dX11_tied_26 : decode cX11_tied 26 = .ok (.istore_n 2, 1) := by decide +kernel
theorem dX11_tied_27 : decode cX11_tied 27 = .ok (.iload_n 2, 1) := by decide +kernel
theorem dX11_tied_28 : decode cX11_tied 28 = .ok (.istore_n 3, 1) := by decide +kernel
theorem dX11_tied_29 : decode cX11_tied 29 = .ok (.iload_n 3, 1) := by decide +kernel
theorem dX11_tied_30 : decode cX11_tied 30 = .ok (.iload_n 1, 1) := by decide +kernel
theorem dX11_tied_31 : decode cX11_tied 31 = .ok (.if_icmp .ge 71, 3) := by decide +kernel
theorem dX11_tied_34 : decode cX11_tied 34 = .ok (.iload_n 3, 1) := by decide +kernel
theorem dX11_tied_35 : decode cX11_tied 35 = .ok (.iload_n 1, 1) := by decide +kernel
theorem dX11_tied_36 : decode cX11_tied 36 = .ok (.iconst (-1), 1) := by decide +kernel
theorem dX11_tied_37 : decode cX11_tied 37 = .ok (.ixor, 1) := by decide +kernel
theorem dX11_tied_38 : decode cX11_tied 38 = .ok (.iand, 1) := by decide +kernel
theorem dX11_tied_39 : decode cX11_tied 39 = .ok (.ifCond .ne 13, 3) := by decide +kernel
theorem dX11_tied_42 : decode cX11_tied 42 = .ok (.iload_n 3, 1) := by decide +kernel
theorem dX11_tied_43 : decode cX11_tied 43 = .ok (.iload_n 2, 1) := by decide +kernel
theorem dX11_tied_44 : decode cX11_tied 44 = .ok (.iand, 1) := by decide +kernel
theorem dX11_tied_45 : decode cX11_tied 45 = .ok (.ifCond .eq 7, 3) := by decide +kernel
theorem dX11_tied_48 : decode cX11_tied 48 = .ok (.iconst 1, 1) := by decide +kernel
theorem dX11_tied_49 : decode cX11_tied 49 = .ok (.goto 4, 3) := by decide +kernel
theorem dX11_tied_52 : decode cX11_tied 52 = .ok (.iconst 0, 1) := by decide +kernel
theorem dX11_tied_53 : decode cX11_tied 53 = .ok (.istore 4, 2) := by decide +kernel
theorem dX11_tied_55 : decode cX11_tied 55 = .ok (.iload 4, 2) := by decide +kernel
theorem dX11_tied_57 : decode cX11_tied 57 = .ok (.ifCond .eq 39, 3) := by decide +kernel
theorem dX11_tied_60 : decode cX11_tied 60 = .ok (.aload_n 0, 1) := by decide +kernel
theorem dX11_tied_61 : decode cX11_tied 61 = .ok (.aload_n 0, 1) := by decide +kernel
theorem dX11_tied_62 : decode cX11_tied 62 = .ok (.getfield 34, 3) := by decide +kernel
theorem dX11_tied_65 : decode cX11_tied 65 = .ok (.getfield 108, 3) := by decide +kernel
theorem dX11_tied_68 : decode cX11_tied 68 = .ok (.iload_n 3, 1) := by decide +kernel
theorem dX11_tied_69 : decode cX11_tied 69 = .ok (.invokevirtual 182, 3) := by decide +kernel
theorem dX11_tied_72 : decode cX11_tied 72 = .ok (.ifCond .ne 24, 3) := by decide +kernel
theorem dX11_tied_75 : decode cX11_tied 75 = .ok (.aload_n 0, 1) := by decide +kernel
theorem dX11_tied_76 : decode cX11_tied 76 = .ok (.aload_n 0, 1) := by decide +kernel
theorem dX11_tied_77 : decode cX11_tied 77 = .ok (.getfield 34, 3) := by decide +kernel
theorem dX11_tied_80 : decode cX11_tied 80 = .ok (.getfield 108, 3) := by decide +kernel
theorem dX11_tied_83 : decode cX11_tied 83 = .ok (.iload_n 1, 1) := by decide +kernel
theorem dX11_tied_84 : decode cX11_tied 84 = .ok (.iload_n 3, 1) := by decide +kernel
theorem dX11_tied_85 : decode cX11_tied 85 = .ok (.iconst (-1), 1) := by decide +kernel
theorem dX11_tied_86 : decode cX11_tied 86 = .ok (.ixor, 1) := by decide +kernel
theorem dX11_tied_87 : decode cX11_tied 87 = .ok (.iand, 1) := by decide +kernel
theorem dX11_tied_88 : decode cX11_tied 88 = .ok (.invokevirtual 182, 3) := by decide +kernel
theorem dX11_tied_91 : decode cX11_tied 91 = .ok (.ifCond .ne 5, 3) := by decide +kernel
theorem dX11_tied_94 : decode cX11_tied 94 = .ok (.iload_n 3, 1) := by decide +kernel
theorem dX11_tied_95 : decode cX11_tied 95 = .ok (.ireturn, 1) := by decide +kernel
theorem dX11_tied_96 : decode cX11_tied 96 = .ok (.iinc 3 1, 3) := by decide +kernel
theorem dX11_tied_99 : decode cX11_tied 99 = .ok (.goto (-70), 3) := by decide +kernel
theorem dX11_tied_102 : decode cX11_tied 102 = .ok (.iconst (-1), 1) := by decide +kernel
theorem dX11_tied_103 : decode cX11_tied 103 = .ok (.ireturn, 1) := by decide +kernel
theorem dX11_alone_0 : decode cX11_alone 0 = .ok (.iconst 0, 1) := by decide +kernel
theorem dX11_alone_1 : decode cX11_alone 1 = .ok (.istore_n 1, 1) := by decide +kernel
theorem dX11_alone_2 : decode cX11_alone 2 = .ok (.iconst 0, 1) := by decide +kernel
theorem dX11_alone_3 : decode cX11_alone 3 = .ok (.istore_n 2, 1) := by decide +kernel
theorem dX11_alone_4 : decode cX11_alone 4 = .ok (.iload_n 2, 1) := by decide +kernel
theorem dX11_alone_5 : decode cX11_alone 5 = .ok (.bipush 8, 2) := by decide +kernel
theorem dX11_alone_7 : decode cX11_alone 7 = .ok (.if_icmp .ge 34, 3) := by decide +kernel
theorem dX11_alone_10 : decode cX11_alone 10 = .ok (.aload_n 0, 1) := by decide +kernel
theorem dX11_alone_11 : decode cX11_alone 11 = .ok (.aload_n 0, 1) := by decide +kernel
theorem dX11_alone_12 : decode cX11_alone 12 = .ok (.getfield 34, 3) := by decide +kernel
theorem dX11_alone_15 : decode cX11_alone 15 = .ok (.getfield 108, 3) := by decide +kernel
theorem dX11_alone_18 : decode cX11_alone 18 = .ok (.iload_n 2, 1) := by decide +kernel
theorem dX11_alone_19 : decode cX11_alone 19 = .ok (.invokestatic 135, 3) := by decide +kernel
theorem dX11_alone_22 : decode cX11_alone 22 = .ok (.invokevirtual 182, 3) := by decide +kernel
theorem dX11_alone_25 : decode cX11_alone 25 = .ok (.ifCond .ne 10, 3) := by decide +kernel
theorem dX11_alone_28 : decode cX11_alone 28 = .ok (.iload_n 1, 1) := by decide +kernel
theorem dX11_alone_29 : decode cX11_alone 29 = .ok (.iload_n 2, 1) := by decide +kernel
theorem dX11_alone_30 : decode cX11_alone 30 = .ok (.invokestatic 135, 3) := by decide +kernel
theorem dX11_alone_33 : decode cX11_alone 33 = .ok (.ior, 1) := by decide +kernel
theorem dX11_alone_34 : decode cX11_alone 34 = .ok (.istore_n 1, 1) := by decide +kernel
theorem dX11_alone_35 : decode cX11_alone 35 = .ok (.iinc 2 1, 3) := by decide +kernel
theorem dX11_alone_38 : decode cX11_alone 38 = .ok (.goto (-34), 3) := by decide +kernel
theorem dX11_alone_41 : decode cX11_alone 41 = .ok (.iload_n 1, 1) := by decide +kernel
theorem dX11_alone_42 : decode cX11_alone 42 = .ok (.ireturn, 1) := by decide +kernel
theorem dX11_league_0 : decode cX11_league 0 = .ok (.iconst 0, 1) := by decide +kernel
theorem dX11_league_1 : decode cX11_league 1 = .ok (.istore_n 1, 1) := by decide +kernel
theorem dX11_league_2 : decode cX11_league 2 = .ok (.iconst 0, 1) := by decide +kernel
theorem dX11_league_3 : decode cX11_league 3 = .ok (.istore_n 2, 1) := by decide +kernel
theorem dX11_league_4 : decode cX11_league 4 = .ok (.iload_n 2, 1) := by decide +kernel
theorem dX11_league_5 : decode cX11_league 5 = .ok (.bipush 8, 2) := by decide +kernel
theorem dX11_league_7 : decode cX11_league 7 = .ok (.if_icmp .ge 36, 3) := by decide +kernel
theorem dX11_league_10 : decode cX11_league 10 = .ok (.iconst 2, 1) := by decide +kernel
theorem dX11_league_11 : decode cX11_league 11 = .ok (.aload_n 0, 1) := by decide +kernel
theorem dX11_league_12 : decode cX11_league 12 = .ok (.iload_n 2, 1) := by decide +kernel
theorem dX11_league_13 : decode cX11_league 13 = .ok (.invokestatic 135, 3) := by decide +kernel
theorem dX11_league_16 : decode cX11_league 16 = .ok (.invokevirtual 197, 3) := by decide +kernel
theorem dX11_league_19 : decode cX11_league 19 = .ok (.imul, 1) := by decide +kernel
theorem dX11_league_20 : decode cX11_league 20 = .ok (.aload_n 0, 1) := by decide +kernel
theorem dX11_league_21 : decode cX11_league 21 = .ok (.getfield 34, 3) := by decide +kernel
theorem dX11_league_24 : decode cX11_league 24 = .ok (.getfield 78, 3) := by decide +kernel
theorem dX11_league_27 : decode cX11_league 27 = .ok (.if_icmp .le 10, 3) := by decide +kernel
theorem dX11_league_30 : decode cX11_league 30 = .ok (.iload_n 1, 1) := by decide +kernel
theorem dX11_league_31 : decode cX11_league 31 = .ok (.iload_n 2, 1) := by decide +kernel
theorem dX11_league_32 : decode cX11_league 32 = .ok (.invokestatic 135, 3) := by decide +kernel
theorem dX11_league_35 : decode cX11_league 35 = .ok (.ior, 1) := by decide +kernel
theorem dX11_league_36 : decode cX11_league 36 = .ok (.istore_n 1, 1) := by decide +kernel
theorem dX11_league_37 : decode cX11_league 37 = .ok (.iinc 2 1, 3) := by decide +kernel
theorem dX11_league_40 : decode cX11_league 40 = .ok (.goto (-36), 3) := by decide +kernel
theorem dX11_league_43 : decode cX11_league 43 = .ok (.iload_n 1, 1) := by decide +kernel
theorem dX11_league_44 : decode cX11_league 44 = .ok (.ireturn, 1) := by decide +kernel
theorem dX11_courts_0 : decode cX11_courts 0 = .ok (.iload_n 1, 1) := by decide +kernel
theorem dX11_courts_1 : decode cX11_courts 1 = .ok (.invokestatic 86, 3) := by decide +kernel
theorem dX11_courts_4 : decode cX11_courts 4 = .ok (.ifCond .ne 10, 3) := by decide +kernel
theorem dX11_courts_7 : decode cX11_courts 7 = .ok (.aload_n 0, 1) := by decide +kernel
theorem dX11_courts_8 : decode cX11_courts 8 = .ok (.bipush (-2), 2) := by decide +kernel
theorem dX11_courts_10 : decode cX11_courts 10 = .ok (.invokevirtual 74, 3) := by decide +kernel
theorem dX11_courts_13 : decode cX11_courts 13 = .ok (.ireturn, 1) := by decide +kernel
theorem dX11_courts_14 : decode cX11_courts 14 = .ok (.aload_n 0, 1) := by decide +kernel
theorem dX11_courts_15 : decode cX11_courts 15 = .ok (.aload_n 0, 1) := by decide +kernel
theorem dX11_courts_16 : decode cX11_courts 16 = .ok (.getfield 34, 3) := by decide +kernel
theorem dX11_courts_19 : decode cX11_courts 19 = .ok (.getfield 108, 3) := by decide +kernel
theorem dX11_courts_22 : decode cX11_courts 22 = .ok (.iload_n 1, 1) := by decide +kernel
theorem dX11_courts_23 : decode cX11_courts 23 = .ok (.invokevirtual 182, 3) := by decide +kernel
theorem dX11_courts_26 : decode cX11_courts 26 = .ok (.istore_n 2, 1) := by decide +kernel
theorem dX11_courts_27 : decode cX11_courts 27 = .ok (.iconst 0, 1) := by decide +kernel
theorem dX11_courts_28 : decode cX11_courts 28 = .ok (.istore_n 3, 1) := by decide +kernel
theorem dX11_courts_29 : decode cX11_courts 29 = .ok (.iconst (-1), 1) := by decide +kernel
theorem dX11_courts_30 : decode cX11_courts 30 = .ok (.istore 4, 2) := by decide +kernel
theorem dX11_courts_32 : decode cX11_courts 32 = .ok (.iload 4, 2) := by decide +kernel
theorem dX11_courts_34 : decode cX11_courts 34 = .ok (.aload_n 0, 1) := by decide +kernel
theorem dX11_courts_35 : decode cX11_courts 35 = .ok (.getfield 34, 3) := by decide +kernel
theorem dX11_courts_38 : decode cX11_courts 38 = .ok (.getfield 78, 3) := by decide +kernel
theorem dX11_courts_41 : decode cX11_courts 41 = .ok (.if_icmp .ge 46, 3) := by decide +kernel
theorem dX11_courts_44 : decode cX11_courts 44 = .ok (.iconst (-1), 1) := by decide +kernel
theorem dX11_courts_45 : decode cX11_courts 45 = .ok (.istore 5, 2) := by decide +kernel
theorem dX11_courts_47 : decode cX11_courts 47 = .ok (.iload 5, 2) := by decide +kernel
theorem dX11_courts_49 : decode cX11_courts 49 = .ok (.aload_n 0, 1) := by decide +kernel
theorem dX11_courts_50 : decode cX11_courts 50 = .ok (.getfield 34, 3) := by decide +kernel
theorem dX11_courts_53 : decode cX11_courts 53 = .ok (.getfield 78, 3) := by decide +kernel
theorem dX11_courts_56 : decode cX11_courts 56 = .ok (.if_icmp .ge 25, 3) := by decide +kernel
theorem dX11_courts_59 : decode cX11_courts 59 = .ok (.iload_n 3, 1) := by decide +kernel
theorem dX11_courts_60 : decode cX11_courts 60 = .ok (.aload_n 0, 1) := by decide +kernel
theorem dX11_courts_61 : decode cX11_courts 61 = .ok (.iload_n 1, 1) := by decide +kernel
theorem dX11_courts_62 : decode cX11_courts 62 = .ok (.iload_n 2, 1) := by decide +kernel
theorem dX11_courts_63 : decode cX11_courts 63 = .ok (.iload 4, 2) := by decide +kernel
theorem dX11_courts_65 : decode cX11_courts 65 = .ok (.iload 5, 2) := by decide +kernel
theorem dX11_courts_67 : decode cX11_courts 67 = .ok (.invokevirtual 200, 3) := by decide +kernel
theorem dX11_courts_70 : decode cX11_courts 70 = .ok (.invokestatic 171, 3) := by decide +kernel
theorem dX11_courts_73 : decode cX11_courts 73 = .ok (.iadd, 1) := by decide +kernel
theorem dX11_courts_74 : decode cX11_courts 74 = .ok (.istore_n 3, 1) := by decide +kernel
theorem dX11_courts_75 : decode cX11_courts 75 = .ok (.iinc 5 1, 3) := by decide +kernel
theorem dX11_courts_78 : decode cX11_courts 78 = .ok (.goto (-31), 3) := by decide +kernel
theorem dX11_courts_81 : decode cX11_courts 81 = .ok (.iinc 4 1, 3) := by decide +kernel
theorem dX11_courts_84 : decode cX11_courts 84 = .ok (.goto (-52), 3) := by decide +kernel
theorem dX11_courts_87 : decode cX11_courts 87 = .ok (.iload_n 3, 1) := by decide +kernel
theorem dX11_courts_88 : decode cX11_courts 88 = .ok (.ireturn, 1) := by decide +kernel
theorem dX11_gone_0 : decode cX11_gone 0 = .ok (.iload_n 1, 1) := by decide +kernel
theorem dX11_gone_1 : decode cX11_gone 1 = .ok (.iconst 1, 1) := by decide +kernel
theorem dX11_gone_2 : decode cX11_gone 2 = .ok (.invokestatic 70, 3) := by decide +kernel
theorem dX11_gone_5 : decode cX11_gone 5 = .ok (.ifCond .ne 10, 3) := by decide +kernel
theorem dX11_gone_8 : decode cX11_gone 8 = .ok (.aload_n 0, 1) := by decide +kernel
theorem dX11_gone_9 : decode cX11_gone 9 = .ok (.bipush (-2), 2) := by decide +kernel
theorem dX11_gone_11 : decode cX11_gone 11 = .ok (.invokevirtual 74, 3) := by decide +kernel
theorem dX11_gone_14 : decode cX11_gone 14 = .ok (.ireturn, 1) := by decide +kernel
theorem dX11_gone_15 : decode cX11_gone 15 = .ok (.iconst (-1), 1) := by decide +kernel
theorem dX11_gone_16 : decode cX11_gone 16 = .ok (.istore_n 2, 1) := by decide +kernel
theorem dX11_gone_17 : decode cX11_gone 17 = .ok (.iconst (-1), 1) := by decide +kernel
theorem dX11_gone_18 : decode cX11_gone 18 = .ok (.istore_n 3, 1) := by decide +kernel
theorem dX11_gone_19 : decode cX11_gone 19 = .ok (.iconst 0, 1) := by decide +kernel
theorem dX11_gone_20 : decode cX11_gone 20 = .ok (.istore 4, 2) := by decide +kernel
theorem dX11_gone_22 : decode cX11_gone 22 = .ok (.iload 4, 2) := by decide +kernel
theorem dX11_gone_24 : decode cX11_gone 24 = .ok (.aload_n 0, 1) := by decide +kernel
theorem dX11_gone_25 : decode cX11_gone 25 = .ok (.getfield 34, 3) := by decide +kernel
theorem dX11_gone_28 : decode cX11_gone 28 = .ok (.getfield 78, 3) := by decide +kernel
theorem dX11_gone_31 : decode cX11_gone 31 = .ok (.if_icmp .ge 36, 3) := by decide +kernel
theorem dX11_gone_34 : decode cX11_gone 34 = .ok (.aload_n 0, 1) := by decide +kernel
theorem dX11_gone_35 : decode cX11_gone 35 = .ok (.iconst (-1), 1) := by decide +kernel
theorem dX11_gone_36 : decode cX11_gone 36 = .ok (.iload 4, 2) := by decide +kernel
theorem dX11_gone_38 : decode cX11_gone 38 = .ok (.invokestatic 135, 3) := by decide +kernel
theorem dX11_gone_41 : decode cX11_gone 41 = .ok (.invokevirtual 185, 3) := by decide +kernel
theorem dX11_gone_44 : decode cX11_gone 44 = .ok (.invokestatic 192, 3) := by decide +kernel
theorem dX11_gone_47 : decode cX11_gone 47 = .ok (.istore 5, 2) := by decide +kernel
theorem dX11_gone_49 : decode cX11_gone 49 = .ok (.iload 5, 2) := by decide +kernel
theorem dX11_gone_51 : decode cX11_gone 51 = .ok (.iload_n 3, 1) := by decide +kernel
theorem dX11_gone_52 : decode cX11_gone 52 = .ok (.if_icmp .le 9, 3) := by decide +kernel
theorem dX11_gone_55 : decode cX11_gone 55 = .ok (.iload 4, 2) := by decide +kernel
theorem dX11_gone_57 : decode cX11_gone 57 = .ok (.istore_n 2, 1) := by decide +kernel
theorem dX11_gone_58 : decode cX11_gone 58 = .ok (.iload 5, 2) := by decide +kernel
theorem dX11_gone_60 : decode cX11_gone 60 = .ok (.istore_n 3, 1) := by decide +kernel
theorem dX11_gone_61 : decode cX11_gone 61 = .ok (.iinc 4 1, 3) := by decide +kernel
theorem dX11_gone_64 : decode cX11_gone 64 = .ok (.goto (-42), 3) := by decide +kernel
theorem dX11_gone_67 : decode cX11_gone 67 = .ok (.iload_n 1, 1) := by decide +kernel
theorem dX11_gone_68 : decode cX11_gone 68 = .ok (.ifCond .ne 7, 3) := by decide +kernel
theorem dX11_gone_71 : decode cX11_gone 71 = .ok (.iload_n 2, 1) := by decide +kernel
theorem dX11_gone_72 : decode cX11_gone 72 = .ok (.goto 4, 3) := by decide +kernel
theorem dX11_gone_75 : decode cX11_gone 75 = .ok (.iload_n 3, 1) := by decide +kernel
theorem dX11_gone_76 : decode cX11_gone 76 = .ok (.ireturn, 1) := by decide +kernel
theorem dX11_note_0 : decode cX11_note 0 = .ok (.aload_n 0, 1) := by decide +kernel
theorem dX11_note_1 : decode cX11_note 1 = .ok (.getfield 34, 3) := by decide +kernel
theorem dX11_note_4 : decode cX11_note 4 = .ok (.iload_n 1, 1) := by decide +kernel
theorem dX11_note_5 : decode cX11_note 5 = .ok (.invokevirtual 128, 3) := by decide +kernel
theorem dX11_note_8 : decode cX11_note 8 = .ok (.ifnull 28, 3) := by decide +kernel
theorem dX11_note_11 : decode cX11_note 11 = .ok (.iload_n 2, 1) := by decide +kernel
theorem dX11_note_12 : decode cX11_note 12 = .ok (.invokestatic 86, 3) := by decide +kernel
theorem dX11_note_15 : decode cX11_note 15 = .ok (.ifCond .eq 21, 3) := by decide +kernel
theorem dX11_note_18 : decode cX11_note 18 = .ok (.iload_n 3, 1) := by decide +kernel
theorem dX11_note_19 : decode cX11_note 19 = .ok (.bipush 99, 2) := by decide +kernel
theorem dX11_note_21 : decode cX11_note 21 = .ok (.invokestatic 70, 3) := by decide +kernel
theorem dX11_note_24 : decode cX11_note 24 = .ok (.ifCond .eq 12, 3) := by decide +kernel
theorem dX11_note_27 : decode cX11_note 27 = .ok (.iload 4, 2) := by decide +kernel
