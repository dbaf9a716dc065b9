theorem dX8_copyFrom_32 : decode cX8_copyFrom 32 = .ok (.aload_n 0, 1) := by decide +kernel
theorem dX8_copyFrom_33 : decode cX8_copyFrom 33 = .ok (.aload_n 1, 1) := by decide +kernel
theorem dX8_copyFrom_34 : decode cX8_copyFrom 34 = .ok (.getfield 24, 3) := by decide +kernel
theorem dX8_copyFrom_37 : decode cX8_copyFrom 37 = .ok (.putfield 24, 3) := by decide +kernel
theorem dX8_copyFrom_40 : decode cX8_copyFrom 40 = .ok (.aload_n 0, 1) := by decide +kernel
theorem dX8_copyFrom_41 : decode cX8_copyFrom 41 = .ok (.aload_n 1, 1) := by decide +kernel
theorem dX8_copyFrom_42 : decode cX8_copyFrom 42 = .ok (.getfield 27, 3) := by decide +kernel
theorem dX8_copyFrom_45 : decode cX8_copyFrom 45 = .ok (.putfield 27, 3) := by decide +kernel
theorem dX8_copyFrom_48 : decode cX8_copyFrom 48 = .ok (.return_, 1) := by decide +kernel
theorem dX8_close_0 : decode cX8_close 0 = .ok (.aload_n 0, 1) := by decide +kernel
theorem dX8_close_1 : decode cX8_close 1 = .ok (.dup, 1) := by decide +kernel
theorem dX8_close_2 : decode cX8_close 2 = .ok (.getfield 18, 3) := by decide +kernel
theorem dX8_close_5 : decode cX8_close 5 = .ok (.aload_n 0, 1) := by decide +kernel
theorem dX8_close_6 : decode cX8_close 6 = .ok (.getfield 15, 3) := by decide +kernel
theorem dX8_close_9 : decode cX8_close 9 = .ok (.ior, 1) := by decide +kernel
theorem dX8_close_10 : decode cX8_close 10 = .ok (.putfield 18, 3) := by decide +kernel
theorem dX8_close_13 : decode cX8_close 13 = .ok (.aload_n 0, 1) := by decide +kernel
theorem dX8_close_14 : decode cX8_close 14 = .ok (.iconst 0, 1) := by decide +kernel
theorem dX8_close_15 : decode cX8_close 15 = .ok (.putfield 15, 3) := by decide +kernel
theorem dX8_close_18 : decode cX8_close 18 = .ok (.aload_n 0, 1) := by decide +kernel
theorem dX8_close_19 : decode cX8_close 19 = .ok (.iconst 0, 1) := by decide +kernel
theorem dX8_close_20 : decode cX8_close 20 = .ok (.putfield 21, 3) := by decide +kernel
theorem dX8_close_23 : decode cX8_close 23 = .ok (.aload_n 0, 1) := by decide +kernel
theorem dX8_close_24 : decode cX8_close 24 = .ok (.iconst 0, 1) := by decide +kernel
theorem dX8_close_25 : decode cX8_close 25 = .ok (.putfield 24, 3) := by decide +kernel
theorem dX8_close_28 : decode cX8_close 28 = .ok (.aload_n 0, 1) := by decide +kernel
theorem dX8_close_29 : decode cX8_close 29 = .ok (.dup, 1) := by decide +kernel
theorem dX8_close_30 : decode cX8_close 30 = .ok (.getfield 9, 3) := by decide +kernel
theorem dX8_close_33 : decode cX8_close 33 = .ok (.iconst 1, 1) := by decide +kernel
theorem dX8_close_34 : decode cX8_close 34 = .ok (.iadd, 1) := by decide +kernel
theorem dX8_close_35 : decode cX8_close 35 = .ok (.putfield 9, 3) := by decide +kernel
theorem dX8_close_38 : decode cX8_close 38 = .ok (.return_, 1) := by decide +kernel
theorem dX8_freeLaws_0 : decode cX8_freeLaws 0 = .ok (.sipush 255, 3) := by decide +kernel
theorem dX8_freeLaws_3 : decode cX8_freeLaws 3 = .ok (.aload_n 0, 1) := by decide +kernel
theorem dX8_freeLaws_4 : decode cX8_freeLaws 4 = .ok (.getfield 15, 3) := by decide +kernel
theorem dX8_freeLaws_7 : decode cX8_freeLaws 7 = .ok (.aload_n 0, 1) := by decide +kernel
theorem dX8_freeLaws_8 : decode cX8_freeLaws 8 = .ok (.getfield 18, 3) := by decide +kernel
theorem dX8_freeLaws_11 : decode cX8_freeLaws 11 = .ok (.ior, 1) := by decide +kernel
theorem dX8_freeLaws_12 : decode cX8_freeLaws 12 = .ok (.iconst (-1), 1) := by decide +kernel
theorem dX8_freeLaws_13 : decode cX8_freeLaws 13 = .ok (.ixor, 1) := by decide +kernel
theorem dX8_freeLaws_14 : decode cX8_freeLaws 14 = .ok (.iand, 1) := by decide +kernel
theorem dX8_freeLaws_15 : decode cX8_freeLaws 15 = .ok (.ireturn, 1) := by decide +kernel
theorem dX9_init_0 : decode cX9_init 0 = .ok (.aload_n 0, 1) := by decide +kernel
theorem dX9_init_1 : decode cX9_init 1 = .ok (.invokespecial 3, 3) := by decide +kernel
theorem dX9_init_4 : decode cX9_init 4 = .ok (.aload_n 0, 1) := by decide +kernel
theorem dX9_init_5 : decode cX9_init 5 = .ok (.sipush 150, 3) := by decide +kernel
theorem dX9_init_8 : decode cX9_init 8 = .ok (.newarray .byte, 2) := by decide +kernel
theorem dX9_init_10 : decode cX9_init 10 = .ok (.putfield 9, 3) := by decide +kernel
theorem dX9_init_13 : decode cX9_init 13 = .ok (.return_, 1) := by decide +kernel
theorem dX9_append_0 : decode cX9_append 0 = .ok (.aload_n 0, 1) := by decide +kernel
theorem dX9_append_1 : decode cX9_append 1 = .ok (.getfield 15, 3) := by decide +kernel
theorem dX9_append_4 : decode cX9_append 4 = .ok (.ifCond .lt 36, 3) := by decide +kernel
theorem dX9_append_7 : decode cX9_append 7 = .ok (.aload_n 0, 1) := by decide +kernel
theorem dX9_append_8 : decode cX9_append 8 = .ok (.getfield 15, 3) := by decide +kernel
theorem dX9_append_11 : decode cX9_append 11 = .ok (.aload_n 0, 1) := by decide +kernel
theorem dX9_append_12 : decode cX9_append 12 = .ok (.getfield 9, 3) := by decide +kernel
theorem dX9_append_15 : decode cX9_append 15 = .ok (.arraylength, 1) := by decide +kernel
theorem dX9_append_16 : decode cX9_append 16 = .ok (.if_icmp .ge 24, 3) := by decide +kernel
theorem dX9_append_19 : decode cX9_append 19 = .ok (.aload_n 0, 1) := by decide +kernel
theorem dX9_append_20 : decode cX9_append 20 = .ok (.getfield 9, 3) := by decide +kernel
theorem dX9_append_23 : decode cX9_append 23 = .ok (.aload_n 0, 1) := by decide +kernel
theorem dX9_append_24 : decode cX9_append 24 = .ok (.getfield 15, 3) := by decide +kernel
theorem dX9_append_27 : decode cX9_append 27 = .ok (.iload_n 1, 1) := by decide +kernel
theorem dX9_append_28 : decode cX9_append 28 = .ok (.i2b, 1) := by decide +kernel
theorem dX9_append_29 : decode cX9_append 29 = .ok (.bastore, 1) := by decide +kernel
theorem dX9_append_30 : decode cX9_append 30 = .ok (.aload_n 0, 1) := by decide +kernel
theorem dX9_append_31 : decode cX9_append 31 = .ok (.dup, 1) := by decide +kernel
theorem dX9_append_32 : decode cX9_append 32 = .ok (.getfield 15, 3) := by decide +kernel
theorem dX9_append_35 : decode cX9_append 35 = .ok (.iconst 1, 1) := by decide +kernel
theorem dX9_append_36 : decode cX9_append 36 = .ok (.iadd, 1) := by decide +kernel
theorem dX9_append_37 : decode cX9_append 37 = .ok (.putfield 15, 3) := by decide +kernel
theorem dX9_append_40 : decode cX9_append 40 = .ok (.return_, 1) := by decide +kernel
theorem dX9_rewind_0 : decode cX9_rewind 0 = .ok (.aload_n 0, 1) := by decide +kernel
theorem dX9_rewind_1 : decode cX9_rewind 1 = .ok (.iconst 0, 1) := by decide +kernel
theorem dX9_rewind_2 : decode cX9_rewind 2 = .ok (.putfield 19, 3) := by decide +kernel
theorem dX9_rewind_5 : decode cX9_rewind 5 = .ok (.aload_n 0, 1) := by decide +kernel
theorem dX9_rewind_6 : decode cX9_rewind 6 = .ok (.invokevirtual 22, 3) := by decide +kernel
theorem dX9_rewind_9 : decode cX9_rewind 9 = .ok (.return_, 1) := by decide +kernel
theorem dX9_step_0 : decode cX9_step 0 = .ok (.aload_n 0, 1) := by decide +kernel
theorem dX9_step_1 : decode cX9_step 1 = .ok (.aload_n 0, 1) := by decide +kernel
theorem dX9_step_2 : decode cX9_step 2 = .ok (.aload_n 0, 1) := by decide +kernel
theorem dX9_step_3 : decode cX9_step 3 = .ok (.getfield 19, 3) := by decide +kernel
theorem dX9_step_6 : decode cX9_step 6 = .ok (.bipush 32, 2) := by decide +kernel
theorem dX9_step_8 : decode cX9_step 8 = .ok (.bipush 32, 2) := by decide +kernel
theorem dX9_step_10 : decode cX9_step 10 = .ok (.invokevirtual 25, 3) := by decide +kernel
theorem dX9_step_13 : decode cX9_step 13 = .ok (.putfield 29, 3) := by decide +kernel
theorem dX9_step_16 : decode cX9_step 16 = .ok (.aload_n 0, 1) := by decide +kernel
theorem dX9_step_17 : decode cX9_step 17 = .ok (.aload_n 0, 1) := by decide +kernel
theorem dX9_step_18 : decode cX9_step 18 = .ok (.getfield 29, 3) := by decide +kernel
theorem dX9_step_21 : decode cX9_step 21 = .ok (.bipush 97, 2) := by decide +kernel
theorem dX9_step_23 : decode cX9_step 23 = .ok (.bipush 122, 2) := by decide +kernel
theorem dX9_step_25 : decode cX9_step 25 = .ok (.invokevirtual 25, 3) := by decide +kernel
theorem dX9_step_28 : decode cX9_step 28 = .ok (.istore_n 1, 1) := by decide +kernel
theorem dX9_step_29 : decode cX9_step 29 = .ok (.aload_n 0, 1) := by decide +kernel
theorem dX9_step_30 : decode cX9_step 30 = .ok (.aload_n 0, 1) := by decide +kernel
theorem dX9_step_31 : decode cX9_step 31 = .ok (.getfield 29, 3) := by decide +kernel
theorem dX9_step_34 : decode cX9_step 34 = .ok (.bipush 48, 2) := by decide +kernel
theorem dX9_step_36 : decode cX9_step 36 = .ok (.bipush 57, 2) := by decide +kernel
theorem dX9_step_38 : decode cX9_step 38 = .ok (.invokevirtual 25, 3) := by decide +kernel
theorem dX9_step_41 : decode cX9_step 41 = .ok (.istore_n 2, 1) := by decide +kernel
theorem dX9_step_42 : decode cX9_step 42 = .ok (.aload_n 0, 1) := by decide +kernel
theorem dX9_step_43 : decode cX9_step 43 = .ok (.getfield 29, 3) := by decide +kernel
theorem dX9_step_46 : decode cX9_step 46 = .ok (.aload_n 0, 1) := by decide +kernel
theorem dX9_step_47 : decode cX9_step 47 = .ok (.getfield 15, 3) := by decide +kernel
theorem dX9_step_50 : decode cX9_step 50 = .ok (.if_icmp .lt 19, 3) := by decide +kernel
theorem dX9_step_53 : decode cX9_step 53 = .ok (.aload_n 0, 1) := by decide +kernel
theorem dX9_step_54 : decode cX9_step 54 = .ok (.iconst 0, 1) := by decide +kernel
theorem dX9_step_55 : decode cX9_step 55 = .ok (.putfield 32, 3) := by decide +kernel
theorem dX9_step_58 : decode cX9_step 58 = .ok (.aload_n 0, 1) := by decide +kernel
theorem dX9_step_59 : decode cX9_step 59 = .ok (.aload_n 0, 1) := by decide +kernel
theorem dX9_step_60 : decode cX9_step 60 = .ok (.getfield 29, 3) := by decide +kernel
theorem dX9_step_63 : decode cX9_step 63 = .ok (.putfield 19, 3) := by decide +kernel
theorem dX9_step_66 : decode cX9_step 66 = .ok (.goto 104, 3) := by decide +kernel
theorem dX9_step_69 : decode cX9_step 69 = .ok (.iload_n 1, 1) := by decide +kernel
theorem dX9_step_70 : decode cX9_step 70 = .ok (.aload_n 0, 1) := by decide +kernel
theorem dX9_step_71 : decode cX9_step 71 = .ok (.getfield 29, 3) := by decide +kernel
theorem dX9_step_74 : decode cX9_step 74 = .ok (.if_icmp .le 16, 3) := by decide +kernel
theorem dX9_step_77 : decode cX9_step 77 = .ok (.aload_n 0, 1) := by decide +kernel
theorem dX9_step_78 : decode cX9_step 78 = .ok (.iconst 1, 1) := by decide +kernel
theorem dX9_step_79 : decode cX9_step 79 = .ok (.putfield 32, 3) := by decide +kernel
theorem dX9_step_82 : decode cX9_step 82 = .ok (.aload_n 0, 1) := by decide +kernel
theorem dX9_step_83 : decode cX9_step 83 = .ok (.iload_n 1, 1) := by decide +kernel
theorem dX9_step_84 : decode cX9_step 84 = .ok (.putfield 19, 3) := by decide +kernel
theorem dX9_step_87 : decode cX9_step 87 = .ok (.goto 83, 3) := by decide +kernel
theorem dX9_step_90 : decode cX9_step 90 = .ok (.iload_n 2, 1) := by decide +kernel
theorem dX9_step_91 : decode cX9_step 91 = .ok (.aload_n 0, 1) := by decide +kernel
theorem dX9_step_92 : decode cX9_step 92 = .ok (.getfield 29, 3) := by decide +kernel
theorem dX9_step_95 : decode cX9_step 95 = .ok (.if_icmp .le 43, 3) := by decide +kernel
theorem dX9_step_98 : decode cX9_step 98 = .ok (.aload_n 0, 1) := by decide +kernel
theorem dX9_step_99 : decode cX9_step 99 = .ok (.iload_n 2, 1) := by decide +kernel
theorem dX9_step_100 : decode cX9_step 100 = .ok (.aload_n 0, 1) := by decide +kernel
theorem dX9_step_101 : decode cX9_step 101 = .ok (.getfield 29, 3) := by decide +kernel
theorem dX9_step_104 : decode cX9_step 104 = .ok (.isub, 1) := by decide +kernel
theorem dX9_step_105 : decode cX9_step 105 = .ok (.iconst 2, 1) := by decide +kernel
theorem dX9_step_106 : decode cX9_step 106 = .ok (.if_icmp .le 7, 3) := by decide +kernel
theorem dX9_step_109 : decode cX9_step 109 = .ok (.iconst 4, 1) := by decide +kernel
theorem dX9_step_110 : decode cX9_step 110 = .ok (.goto 4, 3) := by decide +kernel
theorem dX9_step_113 : decode cX9_step 113 = .ok (.iconst 2, 1) := by decide +kernel
theorem dX9_step_114 : decode cX9_step 114 = .ok (.putfield 32, 3) := by decide +kernel
theorem dX9_step_117 : decode cX9_step 117 = .ok (.aload_n 0, 1) := by decide +kernel
theorem dX9_step_118 : decode cX9_step 118 = .ok (.iload_n 2, 1) := by decide +kernel
theorem dX9_step_119 : decode cX9_step 119 = .ok (.putfield 19, 3) := by decide +kernel
theorem dX9_step_122 : decode cX9_step 122 = .ok (.aload_n 0, 1) := by decide +kernel
theorem dX9_step_123 : decode cX9_step 123 = .ok (.aload_n 0, 1) := by decide +kernel
theorem dX9_step_124 : decode cX9_step 124 = .ok (.aload_n 0, 1) := by decide +kernel
theorem dX9_step_125 : decode cX9_step 125 = .ok (.getfield 29, 3) := by decide +kernel
theorem dX9_step_128 : decode cX9_step 128 = .ok (.iload_n 2, 1) := by decide +kernel
theorem dX9_step_129 : decode cX9_step 129 = .ok (.invokevirtual 35, 3) := by decide +kernel
theorem dX9_step_132 : decode cX9_step 132 = .ok (.putfield 39, 3) := by decide +kernel
theorem dX9_step_135 : decode cX9_step 135 = .ok (.goto 35, 3) := by decide +kernel
theorem dX9_step_138 : decode cX9_step 138 = .ok (.aload_n 0, 1) := by decide +kernel
theorem dX9_step_139 : decode cX9_step 139 = .ok (.aload_n 0, 1) := by decide +kernel
theorem dX9_step_140 : decode cX9_step 140 = .ok (.aload_n 0, 1) := by decide +kernel
theorem dX9_step_141 : decode cX9_step 141 = .ok (.getfield 29, 3) := by decide +kernel
theorem dX9_step_144 : decode cX9_step 144 = .ok (.invokevirtual 42, 3) := by decide +kernel
theorem dX9_step_147 : decode cX9_step 147 = .ok (.bipush 59, 2) := by decide +kernel
theorem dX9_step_149 : decode cX9_step 149 = .ok (.if_icmp .ne 7, 3) := by decide +kernel
theorem dX9_step_152 : decode cX9_step 152 = .ok (.iconst 3, 1) := by decide +kernel
theorem dX9_step_153 : decode cX9_step 153 = .ok (.goto 4, 3) := by decide +kernel
theorem dX9_step_156 : decode cX9_step 156 = .ok (.iconst 4, 1) := by decide +kernel
theorem dX9_step_157 : decode cX9_step 157 = .ok (.putfield 32, 3) := by decide +kernel
theorem dX9_step_160 : decode cX9_step 160 = .ok (.aload_n 0, 1) := by decide +kernel
theorem dX9_step_161 : decode cX9_step 161 = .ok (.aload_n 0, 1) := by decide +kernel
theorem dX9_step_162 : decode cX9_step 162 = .ok (.getfield 29, 3) := by decide +kernel
theorem dX9_step_165 : decode cX9_step 165 = .ok (.iconst 1, 1) := by decide +kernel
theorem dX9_step_166 : decode cX9_step 166 = .ok (.iadd, 1) := by decide +kernel
theorem dX9_step_167 : decode cX9_step 167 = .ok (.putfield 19, 3) := by decide +kernel
theorem dX9_step_170 : decode cX9_step 170 = .ok (.return_, 1) := by decide +kernel
theorem dX9_isAtEnd_0 : decode cX9_isAtEnd 0 = .ok (.aload_n 0, 1) := by decide +kernel
theorem dX9_isAtEnd_1 : decode cX9_isAtEnd 1 = .ok (.getfield 32, 3) := by decide +kernel
theorem dX9_isAtEnd_4 : decode cX9_isAtEnd 4 = .ok (.ifCond .ne 7, 3) := by decide +kernel
theorem dX9_isAtEnd_7 : decode cX9_isAtEnd 7 = .ok (.iconst 1, 1) := by decide +kernel
theorem dX9_isAtEnd_8 : decode cX9_isAtEnd 8 = .ok (.goto 4, 3) := by decide +kernel
theorem dX9_isAtEnd_11 : decode cX9_isAtEnd 11 = .ok (.iconst 0, 1) := by decide +kernel
theorem dX9_isAtEnd_12 : decode cX9_isAtEnd 12 = .ok (.ireturn, 1) := by decide +kernel
theorem dX9_isWord_0 : decode cX9_isWord 0 = .ok (.aload_n 0, 1) := by decide +kernel
theorem dX9_isWord_1 : decode cX9_isWord 1 = .ok (.getfield 32, 3) := by decide +kernel
theorem dX9_isWord_4 : decode cX9_isWord 4 = .ok (.iconst 1, 1) := by decide +kernel
theorem dX9_isWord_5 : decode cX9_isWord 5 = .ok (.if_icmp .ne 19, 3) := by decide +kernel
theorem dX9_isWord_8 : decode cX9_isWord 8 = .ok (.aload_n 0, 1) := by decide +kernel
theorem dX9_isWord_9 : decode cX9_isWord 9 = .ok (.getfield 19, 3) := by decide +kernel
theorem dX9_isWord_12 : decode cX9_isWord 12 = .ok (.aload_n 0, 1) := by decide +kernel
theorem dX9_isWord_13 : decode cX9_isWord 13 = .ok (.getfield 29, 3) := by decide +kernel
theorem dX9_isWord_16 : decode cX9_isWord 16 = .ok (.isub, 1) := by decide +kernel
theorem dX9_isWord_17 : decode cX9_isWord 17 = .ok (.aload_n 1, 1) := by decide +kernel
theorem dX9_isWord_18 : decode cX9_isWord 18 = .ok (.invokevirtual 46, 3) := by decide +kernel
theorem dX9_isWord_21 : decode cX9_isWord 21 = .ok (.if_icmp .eq 5, 3) := by decide +kernel
theorem dX9_isWord_24 : decode cX9_isWord 24 = .ok (.iconst 0, 1) := by decide +kernel
theorem dX9_isWord_25 : decode cX9_isWord 25 = .ok (.ireturn, 1) := by decide +kernel
theorem dX9_isWord_26 : decode cX9_isWord 26 = .ok (.iconst 0, 1) := by decide +kernel
theorem dX9_isWord_27 : decode cX9_isWord 27 = .ok (.istore_n 2, 1) := by decide +kernel
theorem dX9_isWord_28 : decode cX9_isWord 28 = .ok (.iload_n 2, 1) := by decide +kernel
theorem dX9_isWord_29 : decode cX9_isWord 29 = .ok (.aload_n 1, 1) := by decide +kernel
theorem dX9_isWord_30 : decode cX9_isWord 30 = .ok (.invokevirtual 46, 3) := by decide +kernel
theorem dX9_isWord_33 : decode cX9_isWord 33 = .ok (.if_icmp .ge 29, 3) := by decide +kernel
theorem dX9_isWord_36 : decode cX9_isWord 36 = .ok (.aload_n 0, 1) := by decide +kernel
theorem dX9_isWord_37 : decode cX9_isWord 37 = .ok (.aload_n 0, 1) := by decide +kernel
theorem dX9_isWord_38 : decode cX9_isWord 38 = .ok (.getfield 29, 3) := by decide +kernel
theorem dX9_isWord_41 : decode cX9_isWord 41 = .ok (.iload_n 2, 1) := by decide +kernel
theorem dX9_isWord_42 : decode cX9_isWord 42 = .ok (.iadd, 1) := by decide +kernel
theorem dX9_isWord_43 : decode cX9_isWord 43 = .ok (.invokevirtual 42, 3) := by decide +kernel
theorem dX9_isWord_46 : decode cX9_isWord 46 = .ok (.aload_n 1, 1) := by decide +kernel
theorem dX9_isWord_47 : decode cX9_isWord 47 = .ok (.iload_n 2, 1) := by decide +kernel
theorem dX9_isWord_48 : decode cX9_isWord 48 = .ok (.invokevirtual 51, 3) := by decide +kernel
theorem dX9_isWord_51 : decode cX9_isWord 51 = .ok (.if_icmp .eq 5, 3) := by decide +kernel
theorem dX9_isWord_54 : decode cX9_isWord 54 = .ok (.iconst 0, 1) := by decide +kernel
theorem dX9_isWord_55 : decode cX9_isWord 55 = .ok (.ireturn, 1) := by decide +kernel
theorem dX9_isWord_56 : decode cX9_isWord 56 = .ok (.iinc 2 1, 3) := by decide +kernel
theorem dX9_isWord_59 : decode cX9_isWord 59 = .ok (.goto (-31), 3) := by decide +kernel
theorem dX9_isWord_62 : decode cX9_isWord 62 = .ok (.iconst 1, 1) := by decide +kernel
theorem dX9_isWord_63 : decode cX9_isWord 63 = .ok (.ireturn, 1) := by decide +kernel
theorem dX9_takeNumber_0 : decode cX9_takeNumber 0 = .ok (.aload_n 0, 1) := by decide +kernel
theorem dX9_takeNumber_1 : decode cX9_takeNumber 1 = .ok (.getfield 32, 3) := by decide +kernel
theorem dX9_takeNumber_4 : decode cX9_takeNumber 4 = .ok (.iconst 2, 1) := by decide +kernel
theorem dX9_takeNumber_5 : decode cX9_takeNumber 5 = .ok (.if_icmp .ne 11, 3) := by decide +kernel
theorem dX9_takeNumber_8 : decode cX9_takeNumber 8 = .ok (.aload_n 0, 1) := by decide +kernel
theorem dX9_takeNumber_9 : decode cX9_takeNumber 9 = .ok (.getfield 39, 3) := by decide +kernel
theorem dX9_takeNumber_12 : decode cX9_takeNumber 12 = .ok (.iload_n 1, 1) := by decide +kernel
theorem dX9_takeNumber_13 : decode cX9_takeNumber 13 = .ok (.if_icmp .le 5, 3) := by decide +kernel
theorem dX9_takeNumber_16 : decode cX9_takeNumber 16 = .ok (.iconst (-1), 1) := by decide +kernel
theorem dX9_takeNumber_17 : decode cX9_takeNumber 17 = .ok (.ireturn, 1) := by decide +kernel
theorem dX9_takeNumber_18 : decode cX9_takeNumber 18 = .ok (.aload_n 0, 1) := by decide +kernel
theorem dX9_takeNumber_19 : decode cX9_takeNumber 19 = .ok (.getfield 39, 3) := by decide +kernel
theorem dX9_takeNumber_22 : decode cX9_takeNumber 22 = .ok (.istore_n 2, 1) := by decide +kernel
theorem dX9_takeNumber_23 : decode cX9_takeNumber 23 = .ok (.aload_n 0, 1) := by decide +kernel
theorem dX9_takeNumber_24 : decode cX9_takeNumber 24 = .ok (.invokevirtual 22, 3) := by decide +kernel
theorem dX9_takeNumber_27 : decode cX9_takeNumber 27 = .ok (.iload_n 2, 1) := by decide +kernel
theorem dX9_takeNumber_28 : decode cX9_takeNumber 28 = .ok (.ireturn, 1) := by decide +kernel
theorem dX9_takeLaws_0 : decode cX9_takeLaws 0 = .ok (.iconst 0, 1) := by decide +kernel
theorem dX9_takeLaws_1 : decode cX9_takeLaws 1 = .ok (.istore_n 1, 1) := by decide +kernel
theorem dX9_takeLaws_2 : decode cX9_takeLaws 2 = .ok (.iconst 0, 1) := by decide +kernel
theorem dX9_takeLaws_3 : decode cX9_takeLaws 3 = .ok (.istore_n 2, 1) := by decide +kernel
theorem dX9_takeLaws_4 : decode cX9_takeLaws 4 = .ok (.iload_n 2, 1) := by decide +kernel
theorem dX9_takeLaws_5 : decode cX9_takeLaws 5 = .ok (.sipush 150, 3) := by decide +kernel
theorem dX9_takeLaws_8 : decode cX9_takeLaws 8 = .ok (.if_icmp .ge 40, 3) := by decide +kernel
theorem dX9_takeLaws_11 : decode cX9_takeLaws 11 = .ok (.aload_n 0, 1) := by decide +kernel
theorem dX9_takeLaws_12 : decode cX9_takeLaws 12 = .ok (.getfield 32, 3) := by decide +kernel
theorem dX9_takeLaws_15 : decode cX9_takeLaws 15 = .ok (.iconst 2, 1) := by decide +kernel
theorem dX9_takeLaws_16 : decode cX9_takeLaws 16 = .ok (.if_icmp .ne 32, 3) := by decide +kernel
theorem dX9_takeLaws_19 : decode cX9_takeLaws 19 = .ok (.aload_n 0, 1) := by decide +kernel
theorem dX9_takeLaws_20 : decode cX9_takeLaws 20 = .ok (.getfield 39, 3) := by decide +kernel
theorem dX9_takeLaws_23 : decode cX9_takeLaws 23 = .ok (.bipush 8, 2) := by decide +kernel
theorem dX9_takeLaws_25 : decode cX9_takeLaws 25 = .ok (.if_icmp .ge 23, 3) := by decide +kernel
theorem dX9_takeLaws_28 : decode cX9_takeLaws 28 = .ok (.iload_n 1, 1) := by decide +kernel
theorem dX9_takeLaws_29 : decode cX9_takeLaws 29 = .ok (.aload_n 0, 1) := by decide +kernel
theorem dX9_takeLaws_30 : decode cX9_takeLaws 30 = .ok (.getfield 39, 3) := by decide +kernel
theorem dX9_takeLaws_33 : decode cX9_takeLaws 33 = .ok (.invokestatic 55, 3) := by decide +kernel
theorem dX9_takeLaws_36 : decode cX9_takeLaws 36 = .ok (.ior, 1) := by decide +kernel
theorem dX9_takeLaws_37 : decode cX9_takeLaws 37 = .ok (.istore_n 1, 1) := by decide +kernel
theorem dX9_takeLaws_38 : decode cX9_takeLaws 38 = .ok (.aload_n 0, 1) := by decide +kernel
theorem dX9_takeLaws_39 : decode cX9_takeLaws 39 = .ok (.invokevirtual 22, 3) := by decide +kernel
theorem dX9_takeLaws_42 : decode cX9_takeLaws 42 = .ok (.iinc 2 1, 3) := by decide +kernel
theorem dX9_takeLaws_45 : decode cX9_takeLaws 45 = .ok (.goto (-41), 3) := by decide +kernel
theorem dX9_takeLaws_48 : decode cX9_takeLaws 48 = .ok (.iload_n 1, 1) := by decide +kernel
theorem dX9_takeLaws_49 : decode cX9_takeLaws 49 = .ok (.ireturn, 1) := by decide +kernel
theorem dX9_takeMark_0 : decode cX9_takeMark 0 = .ok (.aload_n 0, 1) := by decide +kernel
theorem dX9_takeMark_1 : decode cX9_takeMark 1 = .ok (.getfield 32, 3) := by decide +kernel
theorem dX9_takeMark_4 : decode cX9_takeMark 4 = .ok (.iconst 3, 1) := by decide +kernel
theorem dX9_takeMark_5 : decode cX9_takeMark 5 = .ok (.if_icmp .eq 5, 3) := by decide +kernel
theorem dX9_takeMark_8 : decode cX9_takeMark 8 = .ok (.iconst 0, 1) := by decide +kernel
theorem dX9_takeMark_9 : decode cX9_takeMark 9 = .ok (.ireturn, 1) := by decide +kernel
theorem dX9_takeMark_10 : decode cX9_takeMark 10 = .ok (.aload_n 0, 1) := by decide +kernel
theorem dX9_takeMark_11 : decode cX9_takeMark 11 = .ok (.invokevirtual 22, 3) := by decide +kernel
theorem dX9_takeMark_14 : decode cX9_takeMark 14 = .ok (.iconst 1, 1) := by decide +kernel
theorem dX9_takeMark_15 : decode cX9_takeMark 15 = .ok (.ireturn, 1) := by decide +kernel
theorem dX9_endOfRun_0 : decode cX9_endOfRun 0 = .ok (.iload_n 1, 1) := by decide +kernel
theorem dX9_endOfRun_1 : decode cX9_endOfRun 1 = .ok (.iconst 0, 1) := by decide +kernel
theorem dX9_endOfRun_2 : decode cX9_endOfRun 2 = .ok (.invokestatic 58, 3) := by decide +kernel
theorem dX9_endOfRun_5 : decode cX9_endOfRun 5 = .ok (.istore 4, 2) := by decide +kernel
theorem dX9_endOfRun_7 : decode cX9_endOfRun 7 = .ok (.iload 4, 2) := by decide +kernel
theorem dX9_endOfRun_9 : decode cX9_endOfRun 9 = .ok (.aload_n 0, 1) := by decide +kernel
theorem dX9_endOfRun_10 : decode cX9_endOfRun 10 = .ok (.getfield 15, 3) := by decide +kernel
theorem dX9_endOfRun_13 : decode cX9_endOfRun 13 = .ok (.if_icmp .ge 41, 3) := by decide +kernel
theorem dX9_endOfRun_16 : decode cX9_endOfRun 16 = .ok (.iload 4, 2) := by decide +kernel
theorem dX9_endOfRun_18 : decode cX9_endOfRun 18 = .ok (.aload_n 0, 1) := by decide +kernel
theorem dX9_endOfRun_19 : decode cX9_endOfRun 19 = .ok (.getfield 9, 3) := by decide +kernel
theorem dX9_endOfRun_22 : decode cX9_endOfRun 22 = .ok (.arraylength, 1) := by decide +kernel
theorem dX9_endOfRun_23 : decode cX9_endOfRun 23 = .ok (.if_icmp .ge 31, 3) := by decide +kernel
theorem dX9_endOfRun_26 : decode cX9_endOfRun 26 = .ok (.aload_n 0, 1) := by decide +kernel
theorem dX9_endOfRun_27 : decode cX9_endOfRun 27 = .ok (.getfield 9, 3) := by decide +kernel
theorem dX9_endOfRun_30 : decode cX9_endOfRun 30 = .ok (.iload 4, 2) := by decide +kernel
theorem dX9_endOfRun_32 : decode cX9_endOfRun 32 = .ok (.baload, 1) := by decide +kernel
theorem dX9_endOfRun_33 : decode cX9_endOfRun 33 = .ok (.iload_n 2, 1) := by decide +kernel
theorem dX9_endOfRun_34 : decode cX9_endOfRun 34 = .ok (.if_icmp .lt 20, 3) := by decide +kernel
theorem dX9_endOfRun_37 : decode cX9_endOfRun 37 = .ok (.aload_n 0, 1) := by decide +kernel
theorem dX9_endOfRun_38 : decode cX9_endOfRun 38 = .ok (.getfield 9, 3) := by decide +kernel
theorem dX9_endOfRun_41 : decode cX9_endOfRun 41 = .ok (.iload 4, 2) := by decide +kernel
theorem dX9_endOfRun_43 : decode cX9_endOfRun 43 = .ok (.baload, 1) := by decide +kernel
theorem dX9_endOfRun_44 : decode cX9_endOfRun 44 = .ok (.iload_n 3, 1) := by decide +kernel
theorem dX9_endOfRun_45 : decode cX9_endOfRun 45 = .ok (.if_icmp .gt 9, 3) := by decide +kernel
theorem dX9_endOfRun_48 : decode cX9_endOfRun 48 = .ok (.iinc 4 1, 3) := by decide +kernel
theorem dX9_endOfRun_51 : decode cX9_endOfRun 51 = .ok (.goto (-44), 3) := by decide +kernel
theorem dX9_endOfRun_54 : decode cX9_endOfRun 54 = .ok (.iload 4, 2) := by decide +kernel
theorem dX9_endOfRun_56 : decode cX9_endOfRun 56 = .ok (.ireturn, 1) := by decide +kernel
theorem dX9_numberAt_0 : decode cX9_numberAt 0 = .ok (.iconst 0, 1) := by decide +kernel
theorem dX9_numberAt_1 : decode cX9_numberAt 1 = .ok (.istore_n 3, 1) := by decide +kernel
theorem dX9_numberAt_2 : decode cX9_numberAt 2 = .ok (.iload_n 1, 1) := by decide +kernel
theorem dX9_numberAt_3 : decode cX9_numberAt 3 = .ok (.iconst 0, 1) := by decide +kernel
theorem dX9_numberAt_4 : decode cX9_numberAt 4 = .ok (.invokestatic 58, 3) := by decide +kernel
theorem dX9_numberAt_7 : decode cX9_numberAt 7 = .ok (.istore 4, 2) := by decide +kernel
theorem dX9_numberAt_9 : decode cX9_numberAt 9 = .ok (.iload 4, 2) := by decide +kernel
theorem dX9_numberAt_11 : decode cX9_numberAt 11 = .ok (.iload_n 2, 1) := by decide +kernel
theorem dX9_numberAt_12 : decode cX9_numberAt 12 = .ok (.if_icmp .ge 35, 3) := by decide +kernel
theorem dX9_numberAt_15 : decode cX9_numberAt 15 = .ok (.iload 4, 2) := by decide +kernel
theorem dX9_numberAt_17 : decode cX9_numberAt 17 = .ok (.aload_n 0, 1) := by decide +kernel
theorem dX9_numberAt_18 : decode cX9_numberAt 18 = .ok (.getfield 9, 3) := by decide +kernel
theorem dX9_numberAt_21 : decode cX9_numberAt 21 = .ok (.arraylength, 1) := by decide +kernel
theorem dX9_numberAt_22 : decode cX9_numberAt 22 = .ok (.if_icmp .ge 25, 3) := by decide +kernel
theorem dX9_numberAt_25 : decode cX9_numberAt 25 = .ok (.bipush 10, 2) := by decide +kernel
theorem dX9_numberAt_27 : decode cX9_numberAt 27 = .ok (.iload_n 3, 1) := by decide +kernel
theorem dX9_numberAt_28 : decode cX9_numberAt 28 = .ok (.imul, 1) := by decide +kernel
theorem dX9_numberAt_29 : decode cX9_numberAt 29 = .ok (.aload_n 0, 1) := by decide +kernel
theorem dX9_numberAt_30 : decode cX9_numberAt 30 = .ok (.getfield 9, 3) := by decide +kernel
theorem dX9_numberAt_33 : decode cX9_numberAt 33 = .ok (.iload 4, 2) := by decide +kernel
theorem dX9_numberAt_35 : decode cX9_numberAt 35 = .ok (.baload, 1) := by decide +kernel
theorem dX9_numberAt_36 : decode cX9_numberAt 36 = .ok (.iadd, 1) := by decide +kernel
theorem dX9_numberAt_37 : decode cX9_numberAt 37 = .ok (.bipush 48, 2) := by decide +kernel
theorem dX9_numberAt_39 : decode cX9_numberAt 39 = .ok (.isub, 1) := by decide +kernel
theorem dX9_numberAt_40 : decode cX9_numberAt 40 = .ok (.istore_n 3, 1) := by decide +kernel
theorem dX9_numberAt_41 : decode cX9_numberAt 41 = .ok (.iinc 4 1, 3) := by decide +kernel
theorem dX9_numberAt_44 : decode cX9_numberAt 44 = .ok (.goto (-35), 3) := by decide +kernel
theorem dX9_numberAt_47 : decode cX9_numberAt 47 = .ok (.iload_n 3, 1) := by decide +kernel
theorem dX9_numberAt_48 : decode cX9_numberAt 48 = .ok (.ireturn, 1) := by decide +kernel
theorem dX9_byteAt_0 : decode cX9_byteAt 0 = .ok (.iload_n 1, 1) := by decide +kernel
theorem dX9_byteAt_1 : decode cX9_byteAt 1 = .ok (.ifCond .lt 29, 3) := by decide +kernel
theorem dX9_byteAt_4 : decode cX9_byteAt 4 = .ok (.iload_n 1, 1) := by decide +kernel
theorem dX9_byteAt_5 : decode cX9_byteAt 5 = .ok (.aload_n 0, 1) := by decide +kernel
theorem dX9_byteAt_6 : decode cX9_byteAt 6 = .ok (.getfield 15, 3) := by decide +kernel
theorem dX9_byteAt_9 : decode cX9_byteAt 9 = .ok (.if_icmp .ge 21, 3) := by decide +kernel
theorem dX9_byteAt_12 : decode cX9_byteAt 12 = .ok (.iload_n 1, 1) := by decide +kernel
theorem dX9_byteAt_13 : decode cX9_byteAt 13 = .ok (.aload_n 0, 1) := by decide +kernel
theorem dX9_byteAt_14 : decode cX9_byteAt 14 = .ok (.getfield 9, 3) := by decide +kernel
theorem dX9_byteAt_17 : decode cX9_byteAt 17 = .ok (.arraylength, 1) := by decide +kernel
theorem dX9_byteAt_18 : decode cX9_byteAt 18 = .ok (.if_icmp .ge 12, 3) := by decide +kernel
theorem dX9_byteAt_21 : decode cX9_byteAt 21 = .ok (.aload_n 0, 1) := by decide +kernel
theorem dX9_byteAt_22 : decode cX9_byteAt 22 = .ok (.getfield 9, 3) := by decide +kernel
theorem dX9_byteAt_25 : decode cX9_byteAt 25 = .ok (.iload_n 1, 1) := by decide +kernel
theorem dX9_byteAt_26 : decode cX9_byteAt 26 = .ok (.baload, 1) := by decide +kernel
theorem dX9_byteAt_27 : decode cX9_byteAt 27 = .ok (.goto 4, 3) := by decide +kernel
theorem dX9_byteAt_30 : decode cX9_byteAt 30 = .ok (.iconst (-1), 1) := by decide +kernel
theorem dX9_byteAt_31 : decode cX9_byteAt 31 = .ok (.ireturn, 1) := by decide +kernel
theorem dX10_init_0 : decode cX10_init 0 = .ok (.aload_n 0, 1) := by decide +kernel
theorem dX10_init_1 : decode cX10_init 1 = .ok (.invokespecial 1, 3) := by decide +kernel
theorem dX10_init_4 : decode cX10_init 4 = .ok (.return_, 1) := by decide +kernel
theorem dX10_joyBy_0 : decode cX10_joyBy 0 = .ok (.aload_n 0, 1) := by decide +kernel
theorem dX10_joyBy_1 : decode cX10_joyBy 1 = .ok (.iload_n 1, 1) := by decide +kernel
theorem dX10_joyBy_2 : decode cX10_joyBy 2 = .ok (.iload_n 2, 1) := by decide +kernel
theorem dX10_joyBy_3 : decode cX10_joyBy 3 = .ok (.invokespecial 7, 3) := by decide +kernel
theorem dX10_joyBy_6 : decode cX10_joyBy 6 = .ok (.iconst 2, 1) := by decide +kernel
theorem dX10_joyBy_7 : decode cX10_joyBy 7 = .ok (.iadd, 1) := by decide +kernel
theorem dX10_joyBy_8 : decode cX10_joyBy 8 = .ok (.ireturn, 1) := by decide +kernel
theorem dJ6_bitCount_0f7a4_0 : decode cJ6_bitCount_0f7a4 0 = .ok (.iload_n 0, 1) := by decide +kernel
theorem dJ6_bitCount_0f7a4_1 : decode cJ6_bitCount_0f7a4 1 = .ok (.iload_n 0, 1) := by decide +kernel
theorem dJ6_bitCount_0f7a4_2 : decode cJ6_bitCount_0f7a4 2 = .ok (.iconst 1, 1) := by decide +kernel
theorem dJ6_bitCount_0f7a4_3 : decode cJ6_bitCount_0f7a4 3 = .ok (.iushr, 1) := by decide +kernel
theorem dJ6_bitCount_0f7a4_4 : decode cJ6_bitCount_0f7a4 4 = .ok (.ldc_w 265, 3) := by decide +kernel
theorem dJ6_bitCount_0f7a4_7 : decode cJ6_bitCount_0f7a4 7 = .ok (.iand, 1) := by decide +kernel
theorem dJ6_bitCount_0f7a4_8 : decode cJ6_bitCount_0f7a4 8 = .ok (.isub, 1) := by decide +kernel
theorem dJ6_bitCount_0f7a4_9 : decode cJ6_bitCount_0f7a4 9 = .ok (.istore_n 0, 1) := by decide +kernel
theorem dJ6_bitCount_0f7a4_10 : decode cJ6_bitCount_0f7a4 10 = .ok (.iload_n 0, 1) := by decide +kernel
theorem dJ6_bitCount_0f7a4_11 : decode cJ6_bitCount_0f7a4 11 = .ok (.ldc_w 266, 3) := by decide +kernel
theorem dJ6_bitCount_0f7a4_14 : decode cJ6_bitCount_0f7a4 14 = .ok (.iand, 1) := by decide +kernel
theorem dJ6_bitCount_0f7a4_15 : decode cJ6_bitCount_0f7a4 15 = .ok (.iload_n 0, 1) := by decide +kernel
theorem dJ6_bitCount_0f7a4_16 : decode cJ6_bitCount_0f7a4 16 = .ok (.iconst 2, 1) := by decide +kernel
theorem dJ6_bitCount_0f7a4_17 : decode cJ6_bitCount_0f7a4 17 = .ok (.iushr, 1) := by decide +kernel
theorem dJ6_bitCount_0f7a4_18 : decode cJ6_bitCount_0f7a4 18 = .ok (.ldc_w 266, 3) := by decide +kernel
theorem dJ6_bitCount_0f7a4_21 : decode cJ6_bitCount_0f7a4 21 = .ok (.iand, 1) := by decide +kernel
theorem dJ6_bitCount_0f7a4_22 : decode cJ6_bitCount_0f7a4 22 = .ok (.iadd, 1) := by decide +kernel
theorem dJ6_bitCount_0f7a4_23 : decode cJ6_bitCount_0f7a4 23 = .ok (.istore_n 0, 1) := by decide +kernel
theorem dJ6_bitCount_0f7a4_24 : decode cJ6_bitCount_0f7a4 24 = .ok (.iload_n 0, 1) := by decide +kernel
theorem dJ6_bitCount_0f7a4_25 : decode cJ6_bitCount_0f7a4 25 = .ok (.iload_n 0, 1) := by decide +kernel
theorem dJ6_bitCount_0f7a4_26 : decode cJ6_bitCount_0f7a4 26 = .ok (.iconst 4, 1) := by decide +kernel
theorem dJ6_bitCount_0f7a4_27 : decode cJ6_bitCount_0f7a4 27 = .ok (.iushr, 1) := by decide +kernel
theorem dJ6_bitCount_0f7a4_28 : decode cJ6_bitCount_0f7a4 28 = .ok (.iadd, 1) := by decide +kernel
theorem dJ6_bitCount_0f7a4_29 : decode cJ6_bitCount_0f7a4 29 = .ok (.ldc_w 267, 3) := by decide +kernel
theorem dJ6_bitCount_0f7a4_32 : decode cJ6_bitCount_0f7a4 32 = .ok (.iand, 1) := by decide +kernel
theorem dJ6_bitCount_0f7a4_33 : decode cJ6_bitCount_0f7a4 33 = .ok (.istore_n 0, 1) := by decide +kernel
theorem dJ6_bitCount_0f7a4_34 : decode cJ6_bitCount_0f7a4 34 = .ok (.iload_n 0, 1) := by decide +kernel
theorem dJ6_bitCount_0f7a4_35 : decode cJ6_bitCount_0f7a4 35 = .ok (.iload_n 0, 1) := by decide +kernel
theorem dJ6_bitCount_0f7a4_36 : decode cJ6_bitCount_0f7a4 36 = .ok (.bipush 8, 2) := by decide +kernel
theorem dJ6_bitCount_0f7a4_38 : decode cJ6_bitCount_0f7a4 38 = .ok (.iushr, 1) := by decide +kernel
theorem dJ6_bitCount_0f7a4_39 : decode cJ6_bitCount_0f7a4 39 = .ok (.iadd, 1) := by decide +kernel
theorem dJ6_bitCount_0f7a4_40 : decode cJ6_bitCount_0f7a4 40 = .ok (.istore_n 0, 1) := by decide +kernel
theorem dJ6_bitCount_0f7a4_41 : decode cJ6_bitCount_0f7a4 41 = .ok (.iload_n 0, 1) := by decide +kernel
theorem dJ6_bitCount_0f7a4_42 : decode cJ6_bitCount_0f7a4 42 = .ok (.iload_n 0, 1) := by decide +kernel
theorem dJ6_bitCount_0f7a4_43 : decode cJ6_bitCount_0f7a4 43 = .ok (.bipush 16, 2) := by decide +kernel
theorem dJ6_bitCount_0f7a4_45 : decode cJ6_bitCount_0f7a4 45 = .ok (.iushr, 1) := by decide +kernel
theorem dJ6_bitCount_0f7a4_46 : decode cJ6_bitCount_0f7a4 46 = .ok (.iadd, 1) := by decide +kernel
theorem dJ6_bitCount_0f7a4_47 : decode cJ6_bitCount_0f7a4 47 = .ok (.istore_n 0, 1) := by decide +kernel
theorem dJ6_bitCount_0f7a4_48 : decode cJ6_bitCount_0f7a4 48 = .ok (.iload_n 0, 1) := by decide +kernel
theorem dJ6_bitCount_0f7a4_49 : decode cJ6_bitCount_0f7a4 49 = .ok (.bipush 63, 2) := by decide +kernel
theorem dJ6_bitCount_0f7a4_51 : decode cJ6_bitCount_0f7a4 51 = .ok (.iand, 1) := by decide +kernel
theorem dJ6_bitCount_0f7a4_52 : decode cJ6_bitCount_0f7a4 52 = .ok (.ireturn, 1) := by decide +kernel
theorem dJ9_max_7cf53_0 : decode cJ9_max_7cf53 0 = .ok (.iload_n 0, 1) := by decide +kernel
theorem dJ9_max_7cf53_1 : decode cJ9_max_7cf53 1 = .ok (.iload_n 1, 1) := by decide +kernel
theorem dJ9_max_7cf53_2 : decode cJ9_max_7cf53 2 = .ok (.if_icmp .lt 7, 3) := by decide +kernel
theorem dJ9_max_7cf53_5 : decode cJ9_max_7cf53 5 = .ok (.iload_n 0, 1) := by decide +kernel
theorem dJ9_max_7cf53_6 : decode cJ9_max_7cf53 6 = .ok (.goto 4, 3) := by decide +kernel
theorem dJ9_max_7cf53_9 : decode cJ9_max_7cf53 9 = .ok (.iload_n 1, 1) := by decide +kernel
theorem dJ9_max_7cf53_10 : decode cJ9_max_7cf53 10 = .ok (.ireturn, 1) := by decide +kernel
theorem dJ0_length_8abf5_0 : decode cJ0_length_8abf5 0 = .ok (.aload_n 0, 1) := by decide +kernel
theorem dJ0_length_8abf5_1 : decode cJ0_length_8abf5 1 = .ok (.getfield 9, 3) := by decide +kernel
theorem dJ0_length_8abf5_4 : decode cJ0_length_8abf5 4 = .ok (.arraylength, 1) := by decide +kernel
theorem dJ0_length_8abf5_5 : decode cJ0_length_8abf5 5 = .ok (.aload_n 0, 1) := by decide +kernel
theorem dJ0_length_8abf5_6 : decode cJ0_length_8abf5 6 = .ok (.invokevirtual 335, 3) := by decide +kernel
theorem dJ0_length_8abf5_9 : decode cJ0_length_8abf5 9 = .ok (.ishr, 1) := by decide +kernel
theorem dJ0_length_8abf5_10 : decode cJ0_length_8abf5 10 = .ok (.ireturn, 1) := by decide +kernel
theorem dJ0_charAt_5068e_0 : decode cJ0_charAt_5068e 0 = .ok (.aload_n 0, 1) := by decide +kernel
theorem dJ0_charAt_5068e_1 : decode cJ0_charAt_5068e 1 = .ok (.invokevirtual 492, 3) := by decide +kernel
theorem dJ0_charAt_5068e_4 : decode cJ0_charAt_5068e 4 = .ok (.ifCond .eq 12, 3) := by decide +kernel
theorem dJ0_charAt_5068e_7 : decode cJ0_charAt_5068e 7 = .ok (.aload_n 0, 1) := by decide +kernel
theorem dJ0_charAt_5068e_8 : decode cJ0_charAt_5068e 8 = .ok (.getfield 9, 3) := by decide +kernel
theorem dJ0_charAt_5068e_11 : decode cJ0_charAt_5068e 11 = .ok (.iload_n 1, 1) := by decide +kernel
theorem dJ0_charAt_5068e_12 : decode cJ0_charAt_5068e 12 = .ok (.invokestatic 495, 3) := by decide +kernel
theorem dJ0_charAt_5068e_15 : decode cJ0_charAt_5068e 15 = .ok (.ireturn, 1) := by decide +kernel
theorem dJ0_charAt_5068e_16 : decode cJ0_charAt_5068e 16 = .ok (.aload_n 0, 1) := by decide +kernel
theorem dJ0_charAt_5068e_17 : decode cJ0_charAt_5068e 17 = .ok (.getfield 9, 3) := by decide +kernel
theorem dJ0_charAt_5068e_20 : decode cJ0_charAt_5068e 20 = .ok (.iload_n 1, 1) := by decide +kernel
theorem dJ0_charAt_5068e_21 : decode cJ0_charAt_5068e 21 = .ok (.invokestatic 498, 3) := by decide +kernel
theorem dJ0_charAt_5068e_24 : decode cJ0_charAt_5068e 24 = .ok (.ireturn, 1) := by decide +kernel
theorem dJ0_coder_7d493_0 : decode cJ0_coder_7d493 0 = .ok (.getstatic 38, 3) := by decide +kernel
theorem dJ0_coder_7d493_3 : decode cJ0_coder_7d493 3 = .ok (.ifCond .eq 10, 3) := by decide +kernel
theorem dJ0_coder_7d493_6 : decode cJ0_coder_7d493 6 = .ok (.aload_n 0, 1) := by decide +kernel
theorem dJ0_coder_7d493_7 : decode cJ0_coder_7d493 7 = .ok (.getfield 15, 3) := by decide +kernel
theorem dJ0_coder_7d493_10 : decode cJ0_coder_7d493 10 = .ok (.goto 4, 3) := by decide +kernel
theorem dJ0_coder_7d493_13 : decode cJ0_coder_7d493 13 = .ok (.iconst 1, 1) := by decide +kernel
theorem dJ0_coder_7d493_14 : decode cJ0_coder_7d493 14 = .ok (.ireturn, 1) := by decide +kernel
theorem dJ0_isLatin1_aae02_0 : decode cJ0_isLatin1_aae02 0 = .ok (.getstatic 38, 3) := by decide +kernel
theorem dJ0_isLatin1_aae02_3 : decode cJ0_isLatin1_aae02 3 = .ok (.ifCond .eq 14, 3) := by decide +kernel
theorem dJ0_isLatin1_aae02_6 : decode cJ0_isLatin1_aae02 6 = .ok (.aload_n 0, 1) := by decide +kernel
theorem dJ0_isLatin1_aae02_7 : decode cJ0_isLatin1_aae02 7 = .ok (.getfield 15, 3) := by decide +kernel
theorem dJ0_isLatin1_aae02_10 : decode cJ0_isLatin1_aae02 10 = .ok (.ifCond .ne 7, 3) := by decide +kernel
theorem dJ0_isLatin1_aae02_13 : decode cJ0_isLatin1_aae02 13 = .ok (.iconst 1, 1) := by decide +kernel
theorem dJ0_isLatin1_aae02_14 : decode cJ0_isLatin1_aae02 14 = .ok (.goto 4, 3) := by decide +kernel
theorem dJ0_isLatin1_aae02_17 : decode cJ0_isLatin1_aae02 17 = .ok (.iconst 0, 1) := by decide +kernel
theorem dJ0_isLatin1_aae02_18 : decode cJ0_isLatin1_aae02 18 = .ok (.ireturn, 1) := by decide +kernel
theorem dJ0_checkIndex_df160_0 : decode cJ0_checkIndex_df160 0 = .ok (.iload_n 0, 1) := by decide +kernel
theorem dJ0_checkIndex_df160_1 : decode cJ0_checkIndex_df160 1 = .ok (.iload_n 1, 1) := by decide +kernel
theorem dJ0_checkIndex_df160_2 : decode cJ0_checkIndex_df160 2 = .ok (.getstatic 1053, 3) := by decide +kernel
theorem dJ0_checkIndex_df160_5 : decode cJ0_checkIndex_df160 5 = .ok (.invokestatic 1059, 3) := by decide +kernel
theorem dJ0_checkIndex_df160_8 : decode cJ0_checkIndex_df160 8 = .ok (.pop, 1) := by decide +kernel
theorem dJ0_checkIndex_df160_9 : decode cJ0_checkIndex_df160 9 = .ok (.return_, 1) := by decide +kernel
theorem dJ1_charAt_3b067_0 : decode cJ1_charAt_3b067 0 = .ok (.iload_n 1, 1) := by decide +kernel
theorem dJ1_charAt_3b067_1 : decode cJ1_charAt_3b067 1 = .ok (.aload_n 0, 1) := by decide +kernel
theorem dJ1_charAt_3b067_2 : decode cJ1_charAt_3b067 2 = .ok (.arraylength, 1) := by decide +kernel
theorem dJ1_charAt_3b067_3 : decode cJ1_charAt_3b067 3 = .ok (.invokestatic 9, 3) := by decide +kernel
theorem dJ1_charAt_3b067_6 : decode cJ1_charAt_3b067 6 = .ok (.aload_n 0, 1) := by decide +kernel
theorem dJ1_charAt_3b067_7 : decode cJ1_charAt_3b067 7 = .ok (.iload_n 1, 1) := by decide +kernel
theorem dJ1_charAt_3b067_8 : decode cJ1_charAt_3b067 8 = .ok (.baload, 1) := by decide +kernel
theorem dJ1_charAt_3b067_9 : decode cJ1_charAt_3b067 9 = .ok (.sipush 255, 3) := by decide +kernel
theorem dJ1_charAt_3b067_12 : decode cJ1_charAt_3b067 12 = .ok (.iand, 1) := by decide +kernel
theorem dJ1_charAt_3b067_13 : decode cJ1_charAt_3b067 13 = .ok (.i2c, 1) := by decide +kernel
theorem dJ1_charAt_3b067_14 : decode cJ1_charAt_3b067 14 = .ok (.ireturn, 1) := by decide +kernel
theorem dJ2_getChar_3b067_0 : decode cJ2_getChar_3b067 0 = .ok (.getstatic 44, 3) := by decide +kernel
theorem dJ2_getChar_3b067_3 : decode cJ2_getChar_3b067 3 = .ok (.ifCond .ne 25, 3) := by decide +kernel
theorem dJ2_getChar_3b067_6 : decode cJ2_getChar_3b067 6 = .ok (.iload_n 1, 1) := by decide +kernel
theorem dJ2_getChar_3b067_7 : decode cJ2_getChar_3b067 7 = .ok (.ifCond .lt 11, 3) := by decide +kernel
theorem dJ2_getChar_3b067_10 : decode cJ2_getChar_3b067 10 = .ok (.iload_n 1, 1) := by decide +kernel
theorem dJ2_getChar_3b067_11 : decode cJ2_getChar_3b067 11 = .ok (.aload_n 0, 1) := by decide +kernel
theorem dJ2_getChar_3b067_12 : decode cJ2_getChar_3b067 12 = .ok (.invokestatic 48, 3) := by decide +kernel
theorem dJ2_getChar_3b067_15 : decode cJ2_getChar_3b067 15 = .ok (.if_icmp .lt 13, 3) := by decide +kernel
theorem dJ2_getChar_3b067_18 : decode cJ2_getChar_3b067 18 = .ok (.new 52, 3) := by decide +kernel
theorem dJ2_getChar_3b067_21 : decode cJ2_getChar_3b067 21 = .ok (.dup, 1) := by decide +kernel
theorem dJ2_getChar_3b067_22 : decode cJ2_getChar_3b067 22 = .ok (.ldc 54, 2) := by decide +kernel
theorem dJ2_getChar_3b067_24 : decode cJ2_getChar_3b067 24 = .ok (.invokespecial 56, 3) := by decide +kernel
theorem dJ2_getChar_3b067_27 : decode cJ2_getChar_3b067 27 = .ok (.athrow, 1) := by decide +kernel
theorem dJ2_getChar_3b067_28 : decode cJ2_getChar_3b067 28 = .ok (.iload_n 1, 1) := by decide +kernel
theorem dJ2_getChar_3b067_29 : decode cJ2_getChar_3b067 29 = .ok (.iconst 1, 1) := by decide +kernel
theorem dJ2_getChar_3b067_30 : decode cJ2_getChar_3b067 30 = .ok (.ishl, 1) := by decide +kernel
theorem dJ2_getChar_3b067_31 : decode cJ2_getChar_3b067 31 = .ok (.istore_n 1, 1) := by decide +kernel
theorem dJ2_getChar_3b067_32 : decode cJ2_getChar_3b067 32 = .ok (.aload_n 0, 1) := by decide +kernel
theorem dJ2_getChar_3b067_33 : decode cJ2_getChar_3b067 33 = .ok (.iload_n 1, 1) := by decide +kernel
theorem dJ2_getChar_3b067_34 : decode cJ2_getChar_3b067 34 = .ok (.iinc 1 1, 3) := by decide +kernel
theorem dJ2_getChar_3b067_37 : decode cJ2_getChar_3b067 37 = .ok (.baload, 1) := by decide +kernel
theorem dJ2_getChar_3b067_38 : decode cJ2_getChar_3b067 38 = .ok (.sipush 255, 3) := by decide +kernel
theorem dJ2_getChar_3b067_41 : decode cJ2_getChar_3b067 41 = .ok (.iand, 1) := by decide +kernel
theorem dJ2_getChar_3b067_42 : decode cJ2_getChar_3b067 42 = .ok (.getstatic 59, 3) := by decide +kernel
theorem dJ2_getChar_3b067_45 : decode cJ2_getChar_3b067 45 = .ok (.ishl, 1) := by decide +kernel
theorem dJ2_getChar_3b067_46 : decode cJ2_getChar_3b067 46 = .ok (.aload_n 0, 1) := by decide +kernel
theorem dJ2_getChar_3b067_47 : decode cJ2_getChar_3b067 47 = .ok (.iload_n 1, 1) := by decide +kernel
theorem dJ2_getChar_3b067_48 : decode cJ2_getChar_3b067 48 = .ok (.baload, 1) := by decide +kernel
theorem dJ2_getChar_3b067_49 : decode cJ2_getChar_3b067 49 = .ok (.sipush 255, 3) := by decide +kernel
theorem dJ2_getChar_3b067_52 : decode cJ2_getChar_3b067 52 = .ok (.iand, 1) := by decide +kernel
theorem dJ2_getChar_3b067_53 : decode cJ2_getChar_3b067 53 = .ok (.getstatic 63, 3) := by decide +kernel
theorem dJ2_getChar_3b067_56 : decode cJ2_getChar_3b067 56 = .ok (.ishl, 1) := by decide +kernel
theorem dJ2_getChar_3b067_57 : decode cJ2_getChar_3b067 57 = .ok (.ior, 1) := by decide +kernel
theorem dJ2_getChar_3b067_58 : decode cJ2_getChar_3b067 58 = .ok (.i2c, 1) := by decide +kernel
theorem dJ2_getChar_3b067_59 : decode cJ2_getChar_3b067 59 = .ok (.ireturn, 1) := by decide +kernel
theorem dJ2_length_9d52b_0 : decode cJ2_length_9d52b 0 = .ok (.aload_n 0, 1) := by decide +kernel
theorem dJ2_length_9d52b_1 : decode cJ2_length_9d52b 1 = .ok (.arraylength, 1) := by decide +kernel
theorem dJ2_length_9d52b_2 : decode cJ2_length_9d52b 2 = .ok (.iconst 1, 1) := by decide +kernel
theorem dJ2_length_9d52b_3 : decode cJ2_length_9d52b 3 = .ok (.ishr, 1) := by decide +kernel
theorem dJ2_length_9d52b_4 : decode cJ2_length_9d52b 4 = .ok (.ireturn, 1) := by decide +kernel
theorem dJ2_charAt_3b067_0 : decode cJ2_charAt_3b067 0 = .ok (.iload_n 1, 1) := by decide +kernel
theorem dJ2_charAt_3b067_1 : decode cJ2_charAt_3b067 1 = .ok (.aload_n 0, 1) := by decide +kernel
theorem dJ2_charAt_3b067_2 : decode cJ2_charAt_3b067 2 = .ok (.invokestatic 67, 3) := by decide +kernel
theorem dJ2_charAt_3b067_5 : decode cJ2_charAt_3b067 5 = .ok (.aload_n 0, 1) := by decide +kernel
theorem dJ2_charAt_3b067_6 : decode cJ2_charAt_3b067 6 = .ok (.iload_n 1, 1) := by decide +kernel
theorem dJ2_charAt_3b067_7 : decode cJ2_charAt_3b067 7 = .ok (.invokestatic 71, 3) := by decide +kernel
theorem dJ2_charAt_3b067_10 : decode cJ2_charAt_3b067 10 = .ok (.ireturn, 1) := by decide +kernel
theorem dJ2_checkIndex_2214a_0 : decode cJ2_checkIndex_2214a 0 = .ok (.iload_n 0, 1) := by decide +kernel
theorem dJ2_checkIndex_2214a_1 : decode cJ2_checkIndex_2214a 1 = .ok (.aload_n 1, 1) := by decide +kernel
theorem dJ2_checkIndex_2214a_2 : decode cJ2_checkIndex_2214a 2 = .ok (.invokestatic 48, 3) := by decide +kernel
theorem dJ2_checkIndex_2214a_5 : decode cJ2_checkIndex_2214a 5 = .ok (.invokestatic 414, 3) := by decide +kernel
theorem dJ2_checkIndex_2214a_8 : decode cJ2_checkIndex_2214a 8 = .ok (.return_, 1) := by decide +kernel
theorem dJ3_checkIndex_8e157_0 : decode cJ3_checkIndex_8e157 0 = .ok (.iload_n 0, 1) := by decide +kernel
theorem dJ3_checkIndex_8e157_1 : decode cJ3_checkIndex_8e157 1 = .ok (.ifCond .lt 8, 3) := by decide +kernel
theorem dJ3_checkIndex_8e157_4 : decode cJ3_checkIndex_8e157 4 = .ok (.iload_n 0, 1) := by decide +kernel
theorem dJ3_checkIndex_8e157_5 : decode cJ3_checkIndex_8e157 5 = .ok (.iload_n 1, 1) := by decide +kernel
theorem dJ3_checkIndex_8e157_6 : decode cJ3_checkIndex_8e157 6 = .ok (.if_icmp .lt 10, 3) := by decide +kernel
theorem dJ3_checkIndex_8e157_9 : decode cJ3_checkIndex_8e157 9 = .ok (.aload_n 2, 1) := by decide +kernel
theorem dJ3_checkIndex_8e157_10 : decode cJ3_checkIndex_8e157 10 = .ok (.iload_n 0, 1) := by decide +kernel
theorem dJ3_checkIndex_8e157_11 : decode cJ3_checkIndex_8e157 11 = .ok (.iload_n 1, 1) := by decide +kernel
theorem dJ3_checkIndex_8e157_12 : decode cJ3_checkIndex_8e157 12 = .ok (.invokestatic 95, 3) := by decide +kernel
theorem dJ3_checkIndex_8e157_15 : decode cJ3_checkIndex_8e157 15 = .ok (.athrow, 1) := by decide +kernel
theorem dJ3_checkIndex_8e157_16 : decode cJ3_checkIndex_8e157 16 = .ok (.iload_n 0, 1) := by decide +kernel
theorem dJ3_checkIndex_8e157_17 : decode cJ3_checkIndex_8e157 17 = .ok (.ireturn, 1) := by decide +kernel
