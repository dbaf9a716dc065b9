theorem dX0_init_0 : decode cX0_init 0 = .ok (.aload_n 0, 1) := by decide +kernel
theorem dX0_init_1 : decode cX0_init 1 = .ok (.invokespecial 1, 3) := by decide +kernel
theorem dX0_init_4 : decode cX0_init 4 = .ok (.return_, 1) := by decide +kernel
theorem dX0_copyFrom_0 : decode cX0_copyFrom 0 = .ok (.aload_n 0, 1) := by decide +kernel
theorem dX0_copyFrom_1 : decode cX0_copyFrom 1 = .ok (.aload_n 1, 1) := by decide +kernel
theorem dX0_copyFrom_2 : decode cX0_copyFrom 2 = .ok (.getfield 7, 3) := by decide +kernel
theorem dX0_copyFrom_5 : decode cX0_copyFrom 5 = .ok (.putfield 7, 3) := by decide +kernel
theorem dX0_copyFrom_8 : decode cX0_copyFrom 8 = .ok (.aload_n 0, 1) := by decide +kernel
theorem dX0_copyFrom_9 : decode cX0_copyFrom 9 = .ok (.aload_n 1, 1) := by decide +kernel
theorem dX0_copyFrom_10 : decode cX0_copyFrom 10 = .ok (.getfield 13, 3) := by decide +kernel
theorem dX0_copyFrom_13 : decode cX0_copyFrom 13 = .ok (.putfield 13, 3) := by decide +kernel
theorem dX0_copyFrom_16 : decode cX0_copyFrom 16 = .ok (.aload_n 0, 1) := by decide +kernel
theorem dX0_copyFrom_17 : decode cX0_copyFrom 17 = .ok (.aload_n 1, 1) := by decide +kernel
theorem dX0_copyFrom_18 : decode cX0_copyFrom 18 = .ok (.getfield 16, 3) := by decide +kernel
theorem dX0_copyFrom_21 : decode cX0_copyFrom 21 = .ok (.putfield 16, 3) := by decide +kernel
theorem dX0_copyFrom_24 : decode cX0_copyFrom 24 = .ok (.aload_n 0, 1) := by decide +kernel
theorem dX0_copyFrom_25 : decode cX0_copyFrom 25 = .ok (.aload_n 1, 1) := by decide +kernel
theorem dX0_copyFrom_26 : decode cX0_copyFrom 26 = .ok (.getfield 19, 3) := by decide +kernel
theorem dX0_copyFrom_29 : decode cX0_copyFrom 29 = .ok (.putfield 19, 3) := by decide +kernel
theorem dX0_copyFrom_32 : decode cX0_copyFrom 32 = .ok (.return_, 1) := by decide +kernel
theorem dX1_init_0 : decode cX1_init 0 = .ok (.aload_n 0, 1) := by decide +kernel
theorem dX1_init_1 : decode cX1_init 1 = .ok (.invokespecial 3, 3) := by decide +kernel
theorem dX1_init_4 : decode cX1_init 4 = .ok (.aload_n 0, 1) := by decide +kernel
theorem dX1_init_5 : decode cX1_init 5 = .ok (.new 9, 3) := by decide +kernel
theorem dX1_init_8 : decode cX1_init 8 = .ok (.dup, 1) := by decide +kernel
theorem dX1_init_9 : decode cX1_init 9 = .ok (.invokespecial 11, 3) := by decide +kernel
theorem dX1_init_12 : decode cX1_init 12 = .ok (.putfield 12, 3) := by decide +kernel
theorem dX1_init_15 : decode cX1_init 15 = .ok (.aload_n 0, 1) := by decide +kernel
theorem dX1_init_16 : decode cX1_init 16 = .ok (.bipush 6, 2) := by decide +kernel
theorem dX1_init_18 : decode cX1_init 18 = .ok (.anewarray 18, 3) := by decide +kernel
theorem dX1_init_21 : decode cX1_init 21 = .ok (.putfield 20, 3) := by decide +kernel
theorem dX1_init_24 : decode cX1_init 24 = .ok (.iconst 0, 1) := by decide +kernel
theorem dX1_init_25 : decode cX1_init 25 = .ok (.istore_n 1, 1) := by decide +kernel
theorem dX1_init_26 : decode cX1_init 26 = .ok (.iload_n 1, 1) := by decide +kernel
theorem dX1_init_27 : decode cX1_init 27 = .ok (.aload_n 0, 1) := by decide +kernel
theorem dX1_init_28 : decode cX1_init 28 = .ok (.getfield 20, 3) := by decide +kernel
theorem dX1_init_31 : decode cX1_init 31 = .ok (.arraylength, 1) := by decide +kernel
theorem dX1_init_32 : decode cX1_init 32 = .ok (.if_icmp .ge 22, 3) := by decide +kernel
theorem dX1_init_35 : decode cX1_init 35 = .ok (.aload_n 0, 1) := by decide +kernel
theorem dX1_init_36 : decode cX1_init 36 = .ok (.getfield 20, 3) := by decide +kernel
theorem dX1_init_39 : decode cX1_init 39 = .ok (.iload_n 1, 1) := by decide +kernel
theorem dX1_init_40 : decode cX1_init 40 = .ok (.new 18, 3) := by decide +kernel
theorem dX1_init_43 : decode cX1_init 43 = .ok (.dup, 1) := by decide +kernel
theorem dX1_init_44 : decode cX1_init 44 = .ok (.invokespecial 24, 3) := by decide +kernel
theorem dX1_init_47 : decode cX1_init 47 = .ok (.aastore, 1) := by decide +kernel
theorem dX1_init_48 : decode cX1_init 48 = .ok (.iinc 1 1, 3) := by decide +kernel
theorem dX1_init_51 : decode cX1_init 51 = .ok (.goto (-25), 3) := by decide +kernel
theorem dX1_init_54 : decode cX1_init 54 = .ok (.aload_n 0, 1) := by decide +kernel
theorem dX1_init_55 : decode cX1_init 55 = .ok (.bipush 6, 2) := by decide +kernel
theorem dX1_init_57 : decode cX1_init 57 = .ok (.anewarray 25, 3) := by decide +kernel
theorem dX1_init_60 : decode cX1_init 60 = .ok (.putfield 27, 3) := by decide +kernel
theorem dX1_init_63 : decode cX1_init 63 = .ok (.iconst 0, 1) := by decide +kernel
theorem dX1_init_64 : decode cX1_init 64 = .ok (.istore_n 1, 1) := by decide +kernel
theorem dX1_init_65 : decode cX1_init 65 = .ok (.iload_n 1, 1) := by decide +kernel
theorem dX1_init_66 : decode cX1_init 66 = .ok (.aload_n 0, 1) := by decide +kernel
theorem dX1_init_67 : decode cX1_init 67 = .ok (.getfield 27, 3) := by decide +kernel
theorem dX1_init_70 : decode cX1_init 70 = .ok (.arraylength, 1) := by decide +kernel
theorem dX1_init_71 : decode cX1_init 71 = .ok (.if_icmp .ge 22, 3) := by decide +kernel
theorem dX1_init_74 : decode cX1_init 74 = .ok (.aload_n 0, 1) := by decide +kernel
theorem dX1_init_75 : decode cX1_init 75 = .ok (.getfield 27, 3) := by decide +kernel
theorem dX1_init_78 : decode cX1_init 78 = .ok (.iload_n 1, 1) := by decide +kernel
theorem dX1_init_79 : decode cX1_init 79 = .ok (.new 25, 3) := by decide +kernel
theorem dX1_init_82 : decode cX1_init 82 = .ok (.dup, 1) := by decide +kernel
theorem dX1_init_83 : decode cX1_init 83 = .ok (.invokespecial 31, 3) := by decide +kernel
theorem dX1_init_86 : decode cX1_init 86 = .ok (.aastore, 1) := by decide +kernel
theorem dX1_init_87 : decode cX1_init 87 = .ok (.iinc 1 1, 3) := by decide +kernel
theorem dX1_init_90 : decode cX1_init 90 = .ok (.goto (-25), 3) := by decide +kernel
theorem dX1_init_93 : decode cX1_init 93 = .ok (.aload_n 0, 1) := by decide +kernel
theorem dX1_init_94 : decode cX1_init 94 = .ok (.bipush 8, 2) := by decide +kernel
theorem dX1_init_96 : decode cX1_init 96 = .ok (.anewarray 9, 3) := by decide +kernel
theorem dX1_init_99 : decode cX1_init 99 = .ok (.putfield 32, 3) := by decide +kernel
theorem dX1_init_102 : decode cX1_init 102 = .ok (.iconst 0, 1) := by decide +kernel
theorem dX1_init_103 : decode cX1_init 103 = .ok (.istore_n 1, 1) := by decide +kernel
theorem dX1_init_104 : decode cX1_init 104 = .ok (.iload_n 1, 1) := by decide +kernel
theorem dX1_init_105 : decode cX1_init 105 = .ok (.aload_n 0, 1) := by decide +kernel
theorem dX1_init_106 : decode cX1_init 106 = .ok (.getfield 32, 3) := by decide +kernel
theorem dX1_init_109 : decode cX1_init 109 = .ok (.arraylength, 1) := by decide +kernel
theorem dX1_init_110 : decode cX1_init 110 = .ok (.if_icmp .ge 22, 3) := by decide +kernel
theorem dX1_init_113 : decode cX1_init 113 = .ok (.aload_n 0, 1) := by decide +kernel
theorem dX1_init_114 : decode cX1_init 114 = .ok (.getfield 32, 3) := by decide +kernel
theorem dX1_init_117 : decode cX1_init 117 = .ok (.iload_n 1, 1) := by decide +kernel
theorem dX1_init_118 : decode cX1_init 118 = .ok (.new 9, 3) := by decide +kernel
theorem dX1_init_121 : decode cX1_init 121 = .ok (.dup, 1) := by decide +kernel
theorem dX1_init_122 : decode cX1_init 122 = .ok (.invokespecial 11, 3) := by decide +kernel
theorem dX1_init_125 : decode cX1_init 125 = .ok (.aastore, 1) := by decide +kernel
theorem dX1_init_126 : decode cX1_init 126 = .ok (.iinc 1 1, 3) := by decide +kernel
theorem dX1_init_129 : decode cX1_init 129 = .ok (.goto (-25), 3) := by decide +kernel
theorem dX1_init_132 : decode cX1_init 132 = .ok (.return_, 1) := by decide +kernel
theorem dX1_startOn_0 : decode cX1_startOn 0 = .ok (.aload_n 0, 1) := by decide +kernel
theorem dX1_startOn_1 : decode cX1_startOn 1 = .ok (.getfield 12, 3) := by decide +kernel
theorem dX1_startOn_4 : decode cX1_startOn 4 = .ok (.iload_n 1, 1) := by decide +kernel
theorem dX1_startOn_5 : decode cX1_startOn 5 = .ok (.invokevirtual 36, 3) := by decide +kernel
theorem dX1_startOn_8 : decode cX1_startOn 8 = .ok (.aload_n 0, 1) := by decide +kernel
theorem dX1_startOn_9 : decode cX1_startOn 9 = .ok (.iconst 0, 1) := by decide +kernel
theorem dX1_startOn_10 : decode cX1_startOn 10 = .ok (.putfield 40, 3) := by decide +kernel
theorem dX1_startOn_13 : decode cX1_startOn 13 = .ok (.aload_n 0, 1) := by decide +kernel
theorem dX1_startOn_14 : decode cX1_startOn 14 = .ok (.iconst 0, 1) := by decide +kernel
theorem dX1_startOn_15 : decode cX1_startOn 15 = .ok (.putfield 44, 3) := by decide +kernel
theorem dX1_startOn_18 : decode cX1_startOn 18 = .ok (.aload_n 0, 1) := by decide +kernel
theorem dX1_startOn_19 : decode cX1_startOn 19 = .ok (.iconst 0, 1) := by decide +kernel
theorem dX1_startOn_20 : decode cX1_startOn 20 = .ok (.putfield 47, 3) := by decide +kernel
theorem dX1_startOn_23 : decode cX1_startOn 23 = .ok (.return_, 1) := by decide +kernel
theorem dX1_copyFrom_0 : decode cX1_copyFrom 0 = .ok (.aload_n 0, 1) := by decide +kernel
theorem dX1_copyFrom_1 : decode cX1_copyFrom 1 = .ok (.getfield 12, 3) := by decide +kernel
theorem dX1_copyFrom_4 : decode cX1_copyFrom 4 = .ok (.aload_n 1, 1) := by decide +kernel
theorem dX1_copyFrom_5 : decode cX1_copyFrom 5 = .ok (.getfield 12, 3) := by decide +kernel
theorem dX1_copyFrom_8 : decode cX1_copyFrom 8 = .ok (.invokevirtual 50, 3) := by decide +kernel
theorem dX1_copyFrom_11 : decode cX1_copyFrom 11 = .ok (.iconst 0, 1) := by decide +kernel
theorem dX1_copyFrom_12 : decode cX1_copyFrom 12 = .ok (.istore_n 2, 1) := by decide +kernel
theorem dX1_copyFrom_13 : decode cX1_copyFrom 13 = .ok (.iload_n 2, 1) := by decide +kernel
theorem dX1_copyFrom_14 : decode cX1_copyFrom 14 = .ok (.aload_n 0, 1) := by decide +kernel
theorem dX1_copyFrom_15 : decode cX1_copyFrom 15 = .ok (.getfield 20, 3) := by decide +kernel
theorem dX1_copyFrom_18 : decode cX1_copyFrom 18 = .ok (.arraylength, 1) := by decide +kernel
theorem dX1_copyFrom_19 : decode cX1_copyFrom 19 = .ok (.if_icmp .ge 33, 3) := by decide +kernel
theorem dX1_copyFrom_22 : decode cX1_copyFrom 22 = .ok (.iload_n 2, 1) := by decide +kernel
theorem dX1_copyFrom_23 : decode cX1_copyFrom 23 = .ok (.aload_n 1, 1) := by decide +kernel
theorem dX1_copyFrom_24 : decode cX1_copyFrom 24 = .ok (.getfield 20, 3) := by decide +kernel
theorem dX1_copyFrom_27 : decode cX1_copyFrom 27 = .ok (.arraylength, 1) := by decide +kernel
theorem dX1_copyFrom_28 : decode cX1_copyFrom 28 = .ok (.if_icmp .ge 24, 3) := by decide +kernel
theorem dX1_copyFrom_31 : decode cX1_copyFrom 31 = .ok (.aload_n 0, 1) := by decide +kernel
theorem dX1_copyFrom_32 : decode cX1_copyFrom 32 = .ok (.getfield 20, 3) := by decide +kernel
theorem dX1_copyFrom_35 : decode cX1_copyFrom 35 = .ok (.iload_n 2, 1) := by decide +kernel
theorem dX1_copyFrom_36 : decode cX1_copyFrom 36 = .ok (.aaload, 1) := by decide +kernel
theorem dX1_copyFrom_37 : decode cX1_copyFrom 37 = .ok (.aload_n 1, 1) := by decide +kernel
theorem dX1_copyFrom_38 : decode cX1_copyFrom 38 = .ok (.getfield 20, 3) := by decide +kernel
theorem dX1_copyFrom_41 : decode cX1_copyFrom 41 = .ok (.iload_n 2, 1) := by decide +kernel
theorem dX1_copyFrom_42 : decode cX1_copyFrom 42 = .ok (.aaload, 1) := by decide +kernel
theorem dX1_copyFrom_43 : decode cX1_copyFrom 43 = .ok (.invokevirtual 54, 3) := by decide +kernel
theorem dX1_copyFrom_46 : decode cX1_copyFrom 46 = .ok (.iinc 2 1, 3) := by decide +kernel
theorem dX1_copyFrom_49 : decode cX1_copyFrom 49 = .ok (.goto (-36), 3) := by decide +kernel
theorem dX1_copyFrom_52 : decode cX1_copyFrom 52 = .ok (.iconst 0, 1) := by decide +kernel
theorem dX1_copyFrom_53 : decode cX1_copyFrom 53 = .ok (.istore_n 2, 1) := by decide +kernel
theorem dX1_copyFrom_54 : decode cX1_copyFrom 54 = .ok (.iload_n 2, 1) := by decide +kernel
theorem dX1_copyFrom_55 : decode cX1_copyFrom 55 = .ok (.aload_n 0, 1) := by decide +kernel
theorem dX1_copyFrom_56 : decode cX1_copyFrom 56 = .ok (.getfield 27, 3) := by decide +kernel
theorem dX1_copyFrom_59 : decode cX1_copyFrom 59 = .ok (.arraylength, 1) := by decide +kernel
theorem dX1_copyFrom_60 : decode cX1_copyFrom 60 = .ok (.if_icmp .ge 33, 3) := by decide +kernel
theorem dX1_copyFrom_63 : decode cX1_copyFrom 63 = .ok (.iload_n 2, 1) := by decide +kernel
theorem dX1_copyFrom_64 : decode cX1_copyFrom 64 = .ok (.aload_n 1, 1) := by decide +kernel
theorem dX1_copyFrom_65 : decode cX1_copyFrom 65 = .ok (.getfield 27, 3) := by decide +kernel
theorem dX1_copyFrom_68 : decode cX1_copyFrom 68 = .ok (.arraylength, 1) := by decide +kernel
theorem dX1_copyFrom_69 : decode cX1_copyFrom 69 = .ok (.if_icmp .ge 24, 3) := by decide +kernel
theorem dX1_copyFrom_72 : decode cX1_copyFrom 72 = .ok (.aload_n 0, 1) := by decide +kernel
theorem dX1_copyFrom_73 : decode cX1_copyFrom 73 = .ok (.getfield 27, 3) := by decide +kernel
theorem dX1_copyFrom_76 : decode cX1_copyFrom 76 = .ok (.iload_n 2, 1) := by decide +kernel
theorem dX1_copyFrom_77 : decode cX1_copyFrom 77 = .ok (.aaload, 1) := by decide +kernel
theorem dX1_copyFrom_78 : decode cX1_copyFrom 78 = .ok (.aload_n 1, 1) := by decide +kernel
theorem dX1_copyFrom_79 : decode cX1_copyFrom 79 = .ok (.getfield 27, 3) := by decide +kernel
theorem dX1_copyFrom_82 : decode cX1_copyFrom 82 = .ok (.iload_n 2, 1) := by decide +kernel
theorem dX1_copyFrom_83 : decode cX1_copyFrom 83 = .ok (.aaload, 1) := by decide +kernel
theorem dX1_copyFrom_84 : decode cX1_copyFrom 84 = .ok (.invokevirtual 57, 3) := by decide +kernel
theorem dX1_copyFrom_87 : decode cX1_copyFrom 87 = .ok (.iinc 2 1, 3) := by decide +kernel
theorem dX1_copyFrom_90 : decode cX1_copyFrom 90 = .ok (.goto (-36), 3) := by decide +kernel
theorem dX1_copyFrom_93 : decode cX1_copyFrom 93 = .ok (.iconst 0, 1) := by decide +kernel
theorem dX1_copyFrom_94 : decode cX1_copyFrom 94 = .ok (.istore_n 2, 1) := by decide +kernel
theorem dX1_copyFrom_95 : decode cX1_copyFrom 95 = .ok (.iload_n 2, 1) := by decide +kernel
theorem dX1_copyFrom_96 : decode cX1_copyFrom 96 = .ok (.aload_n 0, 1) := by decide +kernel
theorem dX1_copyFrom_97 : decode cX1_copyFrom 97 = .ok (.getfield 32, 3) := by decide +kernel
theorem dX1_copyFrom_100 : decode cX1_copyFrom 100 = .ok (.arraylength, 1) := by decide +kernel
theorem dX1_copyFrom_101 : decode cX1_copyFrom 101 = .ok (.if_icmp .ge 33, 3) := by decide +kernel
theorem dX1_copyFrom_104 : decode cX1_copyFrom 104 = .ok (.iload_n 2, 1) := by decide +kernel
theorem dX1_copyFrom_105 : decode cX1_copyFrom 105 = .ok (.aload_n 1, 1) := by decide +kernel
theorem dX1_copyFrom_106 : decode cX1_copyFrom 106 = .ok (.getfield 32, 3) := by decide +kernel
theorem dX1_copyFrom_109 : decode cX1_copyFrom 109 = .ok (.arraylength, 1) := by decide +kernel
theorem dX1_copyFrom_110 : decode cX1_copyFrom 110 = .ok (.if_icmp .ge 24, 3) := by decide +kernel
theorem dX1_copyFrom_113 : decode cX1_copyFrom 113 = .ok (.aload_n 0, 1) := by decide +kernel
theorem dX1_copyFrom_114 : decode cX1_copyFrom 114 = .ok (.getfield 32, 3) := by decide +kernel
theorem dX1_copyFrom_117 : decode cX1_copyFrom 117 = .ok (.iload_n 2, 1) := by decide +kernel
theorem dX1_copyFrom_118 : decode cX1_copyFrom 118 = .ok (.aaload, 1) := by decide +kernel
theorem dX1_copyFrom_119 : decode cX1_copyFrom 119 = .ok (.aload_n 1, 1) := by decide +kernel
theorem dX1_copyFrom_120 : decode cX1_copyFrom 120 = .ok (.getfield 32, 3) := by decide +kernel
theorem dX1_copyFrom_123 : decode cX1_copyFrom 123 = .ok (.iload_n 2, 1) := by decide +kernel
theorem dX1_copyFrom_124 : decode cX1_copyFrom 124 = .ok (.aaload, 1) := by decide +kernel
theorem dX1_copyFrom_125 : decode cX1_copyFrom 125 = .ok (.invokevirtual 50, 3) := by decide +kernel
theorem dX1_copyFrom_128 : decode cX1_copyFrom 128 = .ok (.iinc 2 1, 3) := by decide +kernel
theorem dX1_copyFrom_131 : decode cX1_copyFrom 131 = .ok (.goto (-36), 3) := by decide +kernel
theorem dX1_copyFrom_134 : decode cX1_copyFrom 134 = .ok (.aload_n 0, 1) := by decide +kernel
theorem dX1_copyFrom_135 : decode cX1_copyFrom 135 = .ok (.aload_n 1, 1) := by decide +kernel
theorem dX1_copyFrom_136 : decode cX1_copyFrom 136 = .ok (.getfield 40, 3) := by decide +kernel
theorem dX1_copyFrom_139 : decode cX1_copyFrom 139 = .ok (.putfield 40, 3) := by decide +kernel
theorem dX1_copyFrom_142 : decode cX1_copyFrom 142 = .ok (.aload_n 0, 1) := by decide +kernel
theorem dX1_copyFrom_143 : decode cX1_copyFrom 143 = .ok (.aload_n 1, 1) := by decide +kernel
theorem dX1_copyFrom_144 : decode cX1_copyFrom 144 = .ok (.getfield 44, 3) := by decide +kernel
theorem dX1_copyFrom_147 : decode cX1_copyFrom 147 = .ok (.putfield 44, 3) := by decide +kernel
theorem dX1_copyFrom_150 : decode cX1_copyFrom 150 = .ok (.aload_n 0, 1) := by decide +kernel
theorem dX1_copyFrom_151 : decode cX1_copyFrom 151 = .ok (.aload_n 1, 1) := by decide +kernel
theorem dX1_copyFrom_152 : decode cX1_copyFrom 152 = .ok (.getfield 47, 3) := by decide +kernel
theorem dX1_copyFrom_155 : decode cX1_copyFrom 155 = .ok (.putfield 47, 3) := by decide +kernel
theorem dX1_copyFrom_158 : decode cX1_copyFrom 158 = .ok (.return_, 1) := by decide +kernel
theorem dX1_deputyAt_0 : decode cX1_deputyAt 0 = .ok (.iload_n 1, 1) := by decide +kernel
theorem dX1_deputyAt_1 : decode cX1_deputyAt 1 = .ok (.ifCond .lt 29, 3) := by decide +kernel
theorem dX1_deputyAt_4 : decode cX1_deputyAt 4 = .ok (.iload_n 1, 1) := by decide +kernel
theorem dX1_deputyAt_5 : decode cX1_deputyAt 5 = .ok (.aload_n 0, 1) := by decide +kernel
theorem dX1_deputyAt_6 : decode cX1_deputyAt 6 = .ok (.getfield 40, 3) := by decide +kernel
theorem dX1_deputyAt_9 : decode cX1_deputyAt 9 = .ok (.if_icmp .ge 21, 3) := by decide +kernel
theorem dX1_deputyAt_12 : decode cX1_deputyAt 12 = .ok (.iload_n 1, 1) := by decide +kernel
theorem dX1_deputyAt_13 : decode cX1_deputyAt 13 = .ok (.aload_n 0, 1) := by decide +kernel
theorem dX1_deputyAt_14 : decode cX1_deputyAt 14 = .ok (.getfield 20, 3) := by decide +kernel
theorem dX1_deputyAt_17 : decode cX1_deputyAt 17 = .ok (.arraylength, 1) := by decide +kernel
theorem dX1_deputyAt_18 : decode cX1_deputyAt 18 = .ok (.if_icmp .ge 12, 3) := by decide +kernel
theorem dX1_deputyAt_21 : decode cX1_deputyAt 21 = .ok (.aload_n 0, 1) := by decide +kernel
theorem dX1_deputyAt_22 : decode cX1_deputyAt 22 = .ok (.getfield 20, 3) := by decide +kernel
theorem dX1_deputyAt_25 : decode cX1_deputyAt 25 = .ok (.iload_n 1, 1) := by decide +kernel
theorem dX1_deputyAt_26 : decode cX1_deputyAt 26 = .ok (.aaload, 1) := by decide +kernel
theorem dX1_deputyAt_27 : decode cX1_deputyAt 27 = .ok (.goto 4, 3) := by decide +kernel
theorem dX1_deputyAt_30 : decode cX1_deputyAt 30 = .ok (.aconst_null, 1) := by decide +kernel
theorem dX1_deputyAt_31 : decode cX1_deputyAt 31 = .ok (.areturn, 1) := by decide +kernel
theorem dX1_noteAt_0 : decode cX1_noteAt 0 = .ok (.iload_n 1, 1) := by decide +kernel
theorem dX1_noteAt_1 : decode cX1_noteAt 1 = .ok (.ifCond .lt 29, 3) := by decide +kernel
theorem dX1_noteAt_4 : decode cX1_noteAt 4 = .ok (.iload_n 1, 1) := by decide +kernel
theorem dX1_noteAt_5 : decode cX1_noteAt 5 = .ok (.aload_n 0, 1) := by decide +kernel
theorem dX1_noteAt_6 : decode cX1_noteAt 6 = .ok (.getfield 44, 3) := by decide +kernel
theorem dX1_noteAt_9 : decode cX1_noteAt 9 = .ok (.if_icmp .ge 21, 3) := by decide +kernel
theorem dX1_noteAt_12 : decode cX1_noteAt 12 = .ok (.iload_n 1, 1) := by decide +kernel
theorem dX1_noteAt_13 : decode cX1_noteAt 13 = .ok (.aload_n 0, 1) := by decide +kernel
theorem dX1_noteAt_14 : decode cX1_noteAt 14 = .ok (.getfield 27, 3) := by decide +kernel
theorem dX1_noteAt_17 : decode cX1_noteAt 17 = .ok (.arraylength, 1) := by decide +kernel
theorem dX1_noteAt_18 : decode cX1_noteAt 18 = .ok (.if_icmp .ge 12, 3) := by decide +kernel
theorem dX1_noteAt_21 : decode cX1_noteAt 21 = .ok (.aload_n 0, 1) := by decide +kernel
theorem dX1_noteAt_22 : decode cX1_noteAt 22 = .ok (.getfield 27, 3) := by decide +kernel
theorem dX1_noteAt_25 : decode cX1_noteAt 25 = .ok (.iload_n 1, 1) := by decide +kernel
theorem dX1_noteAt_26 : decode cX1_noteAt 26 = .ok (.aaload, 1) := by decide +kernel
theorem dX1_noteAt_27 : decode cX1_noteAt 27 = .ok (.goto 4, 3) := by decide +kernel
theorem dX1_noteAt_30 : decode cX1_noteAt 30 = .ok (.aconst_null, 1) := by decide +kernel
theorem dX1_noteAt_31 : decode cX1_noteAt 31 = .ok (.areturn, 1) := by decide +kernel
theorem dX1_addDeputy_0 : decode cX1_addDeputy 0 = .ok (.aload_n 0, 1) := by decide +kernel
theorem dX1_addDeputy_1 : decode cX1_addDeputy 1 = .ok (.getfield 40, 3) := by decide +kernel
theorem dX1_addDeputy_4 : decode cX1_addDeputy 4 = .ok (.ifCond .lt 15, 3) := by decide +kernel
theorem dX1_addDeputy_7 : decode cX1_addDeputy 7 = .ok (.aload_n 0, 1) := by decide +kernel
theorem dX1_addDeputy_8 : decode cX1_addDeputy 8 = .ok (.getfield 40, 3) := by decide +kernel
theorem dX1_addDeputy_11 : decode cX1_addDeputy 11 = .ok (.aload_n 0, 1) := by decide +kernel
theorem dX1_addDeputy_12 : decode cX1_addDeputy 12 = .ok (.getfield 20, 3) := by decide +kernel
theorem dX1_addDeputy_15 : decode cX1_addDeputy 15 = .ok (.arraylength, 1) := by decide +kernel
theorem dX1_addDeputy_16 : decode cX1_addDeputy 16 = .ok (.if_icmp .lt 4, 3) := by decide +kernel
theorem dX1_addDeputy_19 : decode cX1_addDeputy 19 = .ok (.return_, 1) := by decide +kernel
theorem dX1_addDeputy_20 : decode cX1_addDeputy 20 = .ok (.aload_n 0, 1) := by decide +kernel
theorem dX1_addDeputy_21 : decode cX1_addDeputy 21 = .ok (.getfield 20, 3) := by decide +kernel
theorem dX1_addDeputy_24 : decode cX1_addDeputy 24 = .ok (.aload_n 0, 1) := by decide +kernel
theorem dX1_addDeputy_25 : decode cX1_addDeputy 25 = .ok (.getfield 40, 3) := by decide +kernel
theorem dX1_addDeputy_28 : decode cX1_addDeputy 28 = .ok (.aaload, 1) := by decide +kernel
theorem dX1_addDeputy_29 : decode cX1_addDeputy 29 = .ok (.astore 5, 2) := by decide +kernel
theorem dX1_addDeputy_31 : decode cX1_addDeputy 31 = .ok (.aload 5, 2) := by decide +kernel
theorem dX1_addDeputy_33 : decode cX1_addDeputy 33 = .ok (.iload_n 1, 1) := by decide +kernel
theorem dX1_addDeputy_34 : decode cX1_addDeputy 34 = .ok (.putfield 60, 3) := by decide +kernel
theorem dX1_addDeputy_37 : decode cX1_addDeputy 37 = .ok (.aload 5, 2) := by decide +kernel
theorem dX1_addDeputy_39 : decode cX1_addDeputy 39 = .ok (.iload_n 2, 1) := by decide +kernel
theorem dX1_addDeputy_40 : decode cX1_addDeputy 40 = .ok (.putfield 63, 3) := by decide +kernel
theorem dX1_addDeputy_43 : decode cX1_addDeputy 43 = .ok (.aload 5, 2) := by decide +kernel
theorem dX1_addDeputy_45 : decode cX1_addDeputy 45 = .ok (.iload_n 3, 1) := by decide +kernel
theorem dX1_addDeputy_46 : decode cX1_addDeputy 46 = .ok (.putfield 66, 3) := by decide +kernel
theorem dX1_addDeputy_49 : decode cX1_addDeputy 49 = .ok (.aload 5, 2) := by decide +kernel
theorem dX1_addDeputy_51 : decode cX1_addDeputy 51 = .ok (.iload 4, 2) := by decide +kernel
theorem dX1_addDeputy_53 : decode cX1_addDeputy 53 = .ok (.putfield 69, 3) := by decide +kernel
theorem dX1_addDeputy_56 : decode cX1_addDeputy 56 = .ok (.aload_n 0, 1) := by decide +kernel
theorem dX1_addDeputy_57 : decode cX1_addDeputy 57 = .ok (.dup, 1) := by decide +kernel
theorem dX1_addDeputy_58 : decode cX1_addDeputy 58 = .ok (.getfield 40, 3) := by decide +kernel
theorem dX1_addDeputy_61 : decode cX1_addDeputy 61 = .ok (.iconst 1, 1) := by decide +kernel
theorem dX1_addDeputy_62 : decode cX1_addDeputy 62 = .ok (.iadd, 1) := by decide +kernel
theorem dX1_addDeputy_63 : decode cX1_addDeputy 63 = .ok (.putfield 40, 3) := by decide +kernel
theorem dX1_addDeputy_66 : decode cX1_addDeputy 66 = .ok (.aload_n 0, 1) := by decide +kernel
theorem dX1_addDeputy_67 : decode cX1_addDeputy 67 = .ok (.iconst 0, 1) := by decide +kernel
theorem dX1_addDeputy_68 : decode cX1_addDeputy 68 = .ok (.putfield 47, 3) := by decide +kernel
theorem dX1_addDeputy_71 : decode cX1_addDeputy 71 = .ok (.return_, 1) := by decide +kernel
theorem dX1_addNote_0 : decode cX1_addNote 0 = .ok (.aload_n 0, 1) := by decide +kernel
theorem dX1_addNote_1 : decode cX1_addNote 1 = .ok (.getfield 44, 3) := by decide +kernel
theorem dX1_addNote_4 : decode cX1_addNote 4 = .ok (.ifCond .lt 15, 3) := by decide +kernel
theorem dX1_addNote_7 : decode cX1_addNote 7 = .ok (.aload_n 0, 1) := by decide +kernel
theorem dX1_addNote_8 : decode cX1_addNote 8 = .ok (.getfield 44, 3) := by decide +kernel
theorem dX1_addNote_11 : decode cX1_addNote 11 = .ok (.aload_n 0, 1) := by decide +kernel
theorem dX1_addNote_12 : decode cX1_addNote 12 = .ok (.getfield 27, 3) := by decide +kernel
theorem dX1_addNote_15 : decode cX1_addNote 15 = .ok (.arraylength, 1) := by decide +kernel
theorem dX1_addNote_16 : decode cX1_addNote 16 = .ok (.if_icmp .lt 4, 3) := by decide +kernel
theorem dX1_addNote_19 : decode cX1_addNote 19 = .ok (.return_, 1) := by decide +kernel
theorem dX1_addNote_20 : decode cX1_addNote 20 = .ok (.aload_n 0, 1) := by decide +kernel
theorem dX1_addNote_21 : decode cX1_addNote 21 = .ok (.getfield 27, 3) := by decide +kernel
theorem dX1_addNote_24 : decode cX1_addNote 24 = .ok (.aload_n 0, 1) := by decide +kernel
theorem dX1_addNote_25 : decode cX1_addNote 25 = .ok (.getfield 44, 3) := by decide +kernel
theorem dX1_addNote_28 : decode cX1_addNote 28 = .ok (.aaload, 1) := by decide +kernel
theorem dX1_addNote_29 : decode cX1_addNote 29 = .ok (.astore 5, 2) := by decide +kernel
theorem dX1_addNote_31 : decode cX1_addNote 31 = .ok (.aload 5, 2) := by decide +kernel
theorem dX1_addNote_33 : decode cX1_addNote 33 = .ok (.iload_n 1, 1) := by decide +kernel
theorem dX1_addNote_34 : decode cX1_addNote 34 = .ok (.putfield 72, 3) := by decide +kernel
theorem dX1_addNote_37 : decode cX1_addNote 37 = .ok (.aload 5, 2) := by decide +kernel
theorem dX1_addNote_39 : decode cX1_addNote 39 = .ok (.iload_n 2, 1) := by decide +kernel
theorem dX1_addNote_40 : decode cX1_addNote 40 = .ok (.putfield 75, 3) := by decide +kernel
theorem dX1_addNote_43 : decode cX1_addNote 43 = .ok (.aload 5, 2) := by decide +kernel
theorem dX1_addNote_45 : decode cX1_addNote 45 = .ok (.iload_n 3, 1) := by decide +kernel
theorem dX1_addNote_46 : decode cX1_addNote 46 = .ok (.putfield 78, 3) := by decide +kernel
theorem dX1_addNote_49 : decode cX1_addNote 49 = .ok (.aload 5, 2) := by decide +kernel
theorem dX1_addNote_51 : decode cX1_addNote 51 = .ok (.iload 4, 2) := by decide +kernel
theorem dX1_addNote_53 : decode cX1_addNote 53 = .ok (.putfield 81, 3) := by decide +kernel
theorem dX1_addNote_56 : decode cX1_addNote 56 = .ok (.aload_n 0, 1) := by decide +kernel
theorem dX1_addNote_57 : decode cX1_addNote 57 = .ok (.dup, 1) := by decide +kernel
theorem dX1_addNote_58 : decode cX1_addNote 58 = .ok (.getfield 44, 3) := by decide +kernel
theorem dX1_addNote_61 : decode cX1_addNote 61 = .ok (.iconst 1, 1) := by decide +kernel
theorem dX1_addNote_62 : decode cX1_addNote 62 = .ok (.iadd, 1) := by decide +kernel
theorem dX1_addNote_63 : decode cX1_addNote 63 = .ok (.putfield 44, 3) := by decide +kernel
theorem dX1_addNote_66 : decode cX1_addNote 66 = .ok (.return_, 1) := by decide +kernel
theorem dX1_remember_0 : decode cX1_remember 0 = .ok (.aload_n 0, 1) := by decide +kernel
theorem dX1_remember_1 : decode cX1_remember 1 = .ok (.getfield 47, 3) := by decide +kernel
theorem dX1_remember_4 : decode cX1_remember 4 = .ok (.aload_n 0, 1) := by decide +kernel
theorem dX1_remember_5 : decode cX1_remember 5 = .ok (.getfield 32, 3) := by decide +kernel
theorem dX1_remember_8 : decode cX1_remember 8 = .ok (.arraylength, 1) := by decide +kernel
theorem dX1_remember_9 : decode cX1_remember 9 = .ok (.if_icmp .lt 48, 3) := by decide +kernel
theorem dX1_remember_12 : decode cX1_remember 12 = .ok (.iconst 1, 1) := by decide +kernel
theorem dX1_remember_13 : decode cX1_remember 13 = .ok (.istore_n 1, 1) := by decide +kernel
theorem dX1_remember_14 : decode cX1_remember 14 = .ok (.iload_n 1, 1) := by decide +kernel
theorem dX1_remember_15 : decode cX1_remember 15 = .ok (.aload_n 0, 1) := by decide +kernel
theorem dX1_remember_16 : decode cX1_remember 16 = .ok (.getfield 32, 3) := by decide +kernel
theorem dX1_remember_19 : decode cX1_remember 19 = .ok (.arraylength, 1) := by decide +kernel
theorem dX1_remember_20 : decode cX1_remember 20 = .ok (.if_icmp .ge 26, 3) := by decide +kernel
theorem dX1_remember_23 : decode cX1_remember 23 = .ok (.aload_n 0, 1) := by decide +kernel
theorem dX1_remember_24 : decode cX1_remember 24 = .ok (.getfield 32, 3) := by decide +kernel
theorem dX1_remember_27 : decode cX1_remember 27 = .ok (.iload_n 1, 1) := by decide +kernel
theorem dX1_remember_28 : decode cX1_remember 28 = .ok (.iconst 1, 1) := by decide +kernel
theorem dX1_remember_29 : decode cX1_remember 29 = .ok (.isub, 1) := by decide +kernel
theorem dX1_remember_30 : decode cX1_remember 30 = .ok (.aaload, 1) := by decide +kernel
theorem dX1_remember_31 : decode cX1_remember 31 = .ok (.aload_n 0, 1) := by decide +kernel
theorem dX1_remember_32 : decode cX1_remember 32 = .ok (.getfield 32, 3) := by decide +kernel
theorem dX1_remember_35 : decode cX1_remember 35 = .ok (.iload_n 1, 1) := by decide +kernel
theorem dX1_remember_36 : decode cX1_remember 36 = .ok (.aaload, 1) := by decide +kernel
theorem dX1_remember_37 : decode cX1_remember 37 = .ok (.invokevirtual 50, 3) := by decide +kernel
theorem dX1_remember_40 : decode cX1_remember 40 = .ok (.iinc 1 1, 3) := by decide +kernel
theorem dX1_remember_43 : decode cX1_remember 43 = .ok (.goto (-29), 3) := by decide +kernel
theorem dX1_remember_46 : decode cX1_remember 46 = .ok (.aload_n 0, 1) := by decide +kernel
theorem dX1_remember_47 : decode cX1_remember 47 = .ok (.aload_n 0, 1) := by decide +kernel
theorem dX1_remember_48 : decode cX1_remember 48 = .ok (.getfield 32, 3) := by decide +kernel
theorem dX1_remember_51 : decode cX1_remember 51 = .ok (.arraylength, 1) := by decide +kernel
theorem dX1_remember_52 : decode cX1_remember 52 = .ok (.iconst 1, 1) := by decide +kernel
theorem dX1_remember_53 : decode cX1_remember 53 = .ok (.isub, 1) := by decide +kernel
theorem dX1_remember_54 : decode cX1_remember 54 = .ok (.putfield 47, 3) := by decide +kernel
theorem dX1_remember_57 : decode cX1_remember 57 = .ok (.aload_n 0, 1) := by decide +kernel
theorem dX1_remember_58 : decode cX1_remember 58 = .ok (.getfield 47, 3) := by decide +kernel
theorem dX1_remember_61 : decode cX1_remember 61 = .ok (.ifCond .lt 41, 3) := by decide +kernel
theorem dX1_remember_64 : decode cX1_remember 64 = .ok (.aload_n 0, 1) := by decide +kernel
theorem dX1_remember_65 : decode cX1_remember 65 = .ok (.getfield 47, 3) := by decide +kernel
theorem dX1_remember_68 : decode cX1_remember 68 = .ok (.aload_n 0, 1) := by decide +kernel
theorem dX1_remember_69 : decode cX1_remember 69 = .ok (.getfield 32, 3) := by decide +kernel
theorem dX1_remember_72 : decode cX1_remember 72 = .ok (.arraylength, 1) := by decide +kernel
theorem dX1_remember_73 : decode cX1_remember 73 = .ok (.if_icmp .ge 29, 3) := by decide +kernel
theorem dX1_remember_76 : decode cX1_remember 76 = .ok (.aload_n 0, 1) := by decide +kernel
theorem dX1_remember_77 : decode cX1_remember 77 = .ok (.getfield 32, 3) := by decide +kernel
theorem dX1_remember_80 : decode cX1_remember 80 = .ok (.aload_n 0, 1) := by decide +kernel
theorem dX1_remember_81 : decode cX1_remember 81 = .ok (.getfield 47, 3) := by decide +kernel
theorem dX1_remember_84 : decode cX1_remember 84 = .ok (.aaload, 1) := by decide +kernel
theorem dX1_remember_85 : decode cX1_remember 85 = .ok (.aload_n 0, 1) := by decide +kernel
theorem dX1_remember_86 : decode cX1_remember 86 = .ok (.getfield 12, 3) := by decide +kernel
theorem dX1_remember_89 : decode cX1_remember 89 = .ok (.invokevirtual 50, 3) := by decide +kernel
theorem dX1_remember_92 : decode cX1_remember 92 = .ok (.aload_n 0, 1) := by decide +kernel
theorem dX1_remember_93 : decode cX1_remember 93 = .ok (.dup, 1) := by decide +kernel
theorem dX1_remember_94 : decode cX1_remember 94 = .ok (.getfield 47, 3) := by decide +kernel
theorem dX1_remember_97 : decode cX1_remember 97 = .ok (.iconst 1, 1) := by decide +kernel
theorem dX1_remember_98 : decode cX1_remember 98 = .ok (.iadd, 1) := by decide +kernel
theorem dX1_remember_99 : decode cX1_remember 99 = .ok (.putfield 47, 3) := by decide +kernel
theorem dX1_remember_102 : decode cX1_remember 102 = .ok (.return_, 1) := by decide +kernel
theorem dX1_goBack_0 : decode cX1_goBack 0 = .ok (.aload_n 0, 1) := by decide +kernel
theorem dX1_goBack_1 : decode cX1_goBack 1 = .ok (.getfield 47, 3) := by decide +kernel
theorem dX1_goBack_4 : decode cX1_goBack 4 = .ok (.ifCond .le 41, 3) := by decide +kernel
theorem dX1_goBack_7 : decode cX1_goBack 7 = .ok (.aload_n 0, 1) := by decide +kernel
theorem dX1_goBack_8 : decode cX1_goBack 8 = .ok (.getfield 47, 3) := by decide +kernel
theorem dX1_goBack_11 : decode cX1_goBack 11 = .ok (.aload_n 0, 1) := by decide +kernel
theorem dX1_goBack_12 : decode cX1_goBack 12 = .ok (.getfield 32, 3) := by decide +kernel
theorem dX1_goBack_15 : decode cX1_goBack 15 = .ok (.arraylength, 1) := by decide +kernel
theorem dX1_goBack_16 : decode cX1_goBack 16 = .ok (.if_icmp .gt 29, 3) := by decide +kernel
theorem dX1_goBack_19 : decode cX1_goBack 19 = .ok (.aload_n 0, 1) := by decide +kernel
theorem dX1_goBack_20 : decode cX1_goBack 20 = .ok (.dup, 1) := by decide +kernel
theorem dX1_goBack_21 : decode cX1_goBack 21 = .ok (.getfield 47, 3) := by decide +kernel
theorem dX1_goBack_24 : decode cX1_goBack 24 = .ok (.iconst 1, 1) := by decide +kernel
theorem dX1_goBack_25 : decode cX1_goBack 25 = .ok (.isub, 1) := by decide +kernel
theorem dX1_goBack_26 : decode cX1_goBack 26 = .ok (.putfield 47, 3) := by decide +kernel
theorem dX1_goBack_29 : decode cX1_goBack 29 = .ok (.aload_n 0, 1) := by decide +kernel
theorem dX1_goBack_30 : decode cX1_goBack 30 = .ok (.getfield 12, 3) := by decide +kernel
theorem dX1_goBack_33 : decode cX1_goBack 33 = .ok (.aload_n 0, 1) := by decide +kernel
theorem dX1_goBack_34 : decode cX1_goBack 34 = .ok (.getfield 32, 3) := by decide +kernel
theorem dX1_goBack_37 : decode cX1_goBack 37 = .ok (.aload_n 0, 1) := by decide +kernel
theorem dX1_goBack_38 : decode cX1_goBack 38 = .ok (.getfield 47, 3) := by decide +kernel
theorem dX1_goBack_41 : decode cX1_goBack 41 = .ok (.aaload, 1) := by decide +kernel
theorem dX1_goBack_42 : decode cX1_goBack 42 = .ok (.invokevirtual 50, 3) := by decide +kernel
theorem dX1_goBack_45 : decode cX1_goBack 45 = .ok (.return_, 1) := by decide +kernel
theorem dX1_readFrom_0 : decode cX1_readFrom 0 = .ok (.aload_n 0, 1) := by decide +kernel
theorem dX1_readFrom_1 : decode cX1_readFrom 1 = .ok (.iconst 0, 1) := by decide +kernel
theorem dX1_readFrom_2 : decode cX1_readFrom 2 = .ok (.invokevirtual 84, 3) := by decide +kernel
theorem dX1_readFrom_5 : decode cX1_readFrom 5 = .ok (.aload_n 1, 1) := by decide +kernel
theorem dX1_readFrom_6 : decode cX1_readFrom 6 = .ok (.invokevirtual 85, 3) := by decide +kernel
theorem dX1_readFrom_9 : decode cX1_readFrom 9 = .ok (.iconst 0, 1) := by decide +kernel
theorem dX1_readFrom_10 : decode cX1_readFrom 10 = .ok (.istore_n 2, 1) := by decide +kernel
theorem dX1_readFrom_11 : decode cX1_readFrom 11 = .ok (.iload_n 2, 1) := by decide +kernel
theorem dX1_readFrom_12 : decode cX1_readFrom 12 = .ok (.sipush 150, 3) := by decide +kernel
theorem dX1_readFrom_15 : decode cX1_readFrom 15 = .ok (.if_icmp .gt 45, 3) := by decide +kernel
theorem dX1_readFrom_18 : decode cX1_readFrom 18 = .ok (.iload_n 2, 1) := by decide +kernel
theorem dX1_readFrom_19 : decode cX1_readFrom 19 = .ok (.ifCond .eq 10, 3) := by decide +kernel
theorem dX1_readFrom_22 : decode cX1_readFrom 22 = .ok (.aload_n 1, 1) := by decide +kernel
theorem dX1_readFrom_23 : decode cX1_readFrom 23 = .ok (.invokevirtual 90, 3) := by decide +kernel
theorem dX1_readFrom_26 : decode cX1_readFrom 26 = .ok (.ifCond .ne 34, 3) := by decide +kernel
theorem dX1_readFrom_29 : decode cX1_readFrom 29 = .ok (.aload_n 0, 1) := by decide +kernel
theorem dX1_readFrom_30 : decode cX1_readFrom 30 = .ok (.aload_n 1, 1) := by decide +kernel
theorem dX1_readFrom_31 : decode cX1_readFrom 31 = .ok (.iload_n 2, 1) := by decide +kernel
theorem dX1_readFrom_32 : decode cX1_readFrom 32 = .ok (.ifCond .ne 7, 3) := by decide +kernel
theorem dX1_readFrom_35 : decode cX1_readFrom 35 = .ok (.iconst 1, 1) := by decide +kernel
theorem dX1_readFrom_36 : decode cX1_readFrom 36 = .ok (.goto 4, 3) := by decide +kernel
theorem dX1_readFrom_39 : decode cX1_readFrom 39 = .ok (.iconst 0, 1) := by decide +kernel
theorem dX1_readFrom_40 : decode cX1_readFrom 40 = .ok (.invokevirtual 94, 3) := by decide +kernel
theorem dX1_readFrom_43 : decode cX1_readFrom 43 = .ok (.ifCond .ne 11, 3) := by decide +kernel
theorem dX1_readFrom_46 : decode cX1_readFrom 46 = .ok (.bipush (-10), 2) := by decide +kernel
theorem dX1_readFrom_48 : decode cX1_readFrom 48 = .ok (.aload_n 1, 1) := by decide +kernel
theorem dX1_readFrom_49 : decode cX1_readFrom 49 = .ok (.getfield 98, 3) := by decide +kernel
theorem dX1_readFrom_52 : decode cX1_readFrom 52 = .ok (.isub, 1) := by decide +kernel
theorem dX1_readFrom_53 : decode cX1_readFrom 53 = .ok (.ireturn, 1) := by decide +kernel
theorem dX1_readFrom_54 : decode cX1_readFrom 54 = .ok (.iinc 2 1, 3) := by decide +kernel
theorem dX1_readFrom_57 : decode cX1_readFrom 57 = .ok (.goto (-46), 3) := by decide +kernel
theorem dX1_readFrom_60 : decode cX1_readFrom 60 = .ok (.iload_n 2, 1) := by decide +kernel
theorem dX1_readFrom_61 : decode cX1_readFrom 61 = .ok (.ireturn, 1) := by decide +kernel
theorem dX1_takeItem_0 : decode cX1_takeItem 0 = .ok (.aload_n 1, 1) := by decide +kernel
theorem dX1_takeItem_1 : decode cX1_takeItem 1 = .ok (.ldc 101, 2) := by decide +kernel
theorem dX1_takeItem_3 : decode cX1_takeItem 3 = .ok (.invokevirtual 103, 3) := by decide +kernel
theorem dX1_takeItem_6 : decode cX1_takeItem 6 = .ok (.iload_n 2, 1) := by decide +kernel
theorem dX1_takeItem_7 : decode cX1_takeItem 7 = .ok (.if_icmp .eq 5, 3) := by decide +kernel
theorem dX1_takeItem_10 : decode cX1_takeItem 10 = .ok (.iconst 0, 1) := by decide +kernel
theorem dX1_takeItem_11 : decode cX1_takeItem 11 = .ok (.ireturn, 1) := by decide +kernel
theorem dX1_takeItem_12 : decode cX1_takeItem 12 = .ok (.iload_n 2, 1) := by decide +kernel
theorem dX1_takeItem_13 : decode cX1_takeItem 13 = .ok (.ifCond .eq 9, 3) := by decide +kernel
theorem dX1_takeItem_16 : decode cX1_takeItem 16 = .ok (.aload_n 0, 1) := by decide +kernel
theorem dX1_takeItem_17 : decode cX1_takeItem 17 = .ok (.aload_n 1, 1) := by decide +kernel
theorem dX1_takeItem_18 : decode cX1_takeItem 18 = .ok (.invokevirtual 107, 3) := by decide +kernel
theorem dX1_takeItem_21 : decode cX1_takeItem 21 = .ok (.ireturn, 1) := by decide +kernel
theorem dX1_takeItem_22 : decode cX1_takeItem 22 = .ok (.aload_n 1, 1) := by decide +kernel
theorem dX1_takeItem_23 : decode cX1_takeItem 23 = .ok (.ldc 111, 2) := by decide +kernel
theorem dX1_takeItem_25 : decode cX1_takeItem 25 = .ok (.invokevirtual 103, 3) := by decide +kernel
theorem dX1_takeItem_28 : decode cX1_takeItem 28 = .ok (.ifCond .eq 9, 3) := by decide +kernel
theorem dX1_takeItem_31 : decode cX1_takeItem 31 = .ok (.aload_n 0, 1) := by decide +kernel
theorem dX1_takeItem_32 : decode cX1_takeItem 32 = .ok (.aload_n 1, 1) := by decide +kernel
theorem dX1_takeItem_33 : decode cX1_takeItem 33 = .ok (.invokevirtual 112, 3) := by decide +kernel
theorem dX1_takeItem_36 : decode cX1_takeItem 36 = .ok (.ireturn, 1) := by decide +kernel
theorem dX1_takeItem_37 : decode cX1_takeItem 37 = .ok (.aload_n 1, 1) := by decide +kernel
theorem dX1_takeItem_38 : decode cX1_takeItem 38 = .ok (.ldc 115, 2) := by decide +kernel
theorem dX1_takeItem_40 : decode cX1_takeItem 40 = .ok (.invokevirtual 103, 3) := by decide +kernel
theorem dX1_takeItem_43 : decode cX1_takeItem 43 = .ok (.ifCond .eq 10, 3) := by decide +kernel
theorem dX1_takeItem_46 : decode cX1_takeItem 46 = .ok (.aload_n 0, 1) := by decide +kernel
theorem dX1_takeItem_47 : decode cX1_takeItem 47 = .ok (.aload_n 1, 1) := by decide +kernel
theorem dX1_takeItem_48 : decode cX1_takeItem 48 = .ok (.iconst 1, 1) := by decide +kernel
theorem dX1_takeItem_49 : decode cX1_takeItem 49 = .ok (.invokevirtual 116, 3) := by decide +kernel
theorem dX1_takeItem_52 : decode cX1_takeItem 52 = .ok (.ireturn, 1) := by decide +kernel
theorem dX1_takeItem_53 : decode cX1_takeItem 53 = .ok (.aload_n 1, 1) := by decide +kernel
theorem dX1_takeItem_54 : decode cX1_takeItem 54 = .ok (.ldc 119, 2) := by decide +kernel
theorem dX1_takeItem_56 : decode cX1_takeItem 56 = .ok (.invokevirtual 103, 3) := by decide +kernel
theorem dX1_takeItem_59 : decode cX1_takeItem 59 = .ok (.ifCond .eq 10, 3) := by decide +kernel
theorem dX1_takeItem_62 : decode cX1_takeItem 62 = .ok (.aload_n 0, 1) := by decide +kernel
theorem dX1_takeItem_63 : decode cX1_takeItem 63 = .ok (.aload_n 1, 1) := by decide +kernel
theorem dX1_takeItem_64 : decode cX1_takeItem 64 = .ok (.iconst 0, 1) := by decide +kernel
theorem dX1_takeItem_65 : decode cX1_takeItem 65 = .ok (.invokevirtual 116, 3) := by decide +kernel
theorem dX1_takeItem_68 : decode cX1_takeItem 68 = .ok (.ireturn, 1) := by decide +kernel
theorem dX1_takeItem_69 : decode cX1_takeItem 69 = .ok (.aload_n 1, 1) := by decide +kernel
theorem dX1_takeItem_70 : decode cX1_takeItem 70 = .ok (.ldc 120, 2) := by decide +kernel
theorem dX1_takeItem_72 : decode cX1_takeItem 72 = .ok (.invokevirtual 103, 3) := by decide +kernel
theorem dX1_takeItem_75 : decode cX1_takeItem 75 = .ok (.ifCond .eq 15, 3) := by decide +kernel
theorem dX1_takeItem_78 : decode cX1_takeItem 78 = .ok (.aload_n 0, 1) := by decide +kernel
theorem dX1_takeItem_79 : decode cX1_takeItem 79 = .ok (.aload_n 1, 1) := by decide +kernel
theorem dX1_takeItem_80 : decode cX1_takeItem 80 = .ok (.invokevirtual 122, 3) := by decide +kernel
theorem dX1_takeItem_83 : decode cX1_takeItem 83 = .ok (.ifCond .eq 7, 3) := by decide +kernel
theorem dX1_takeItem_86 : decode cX1_takeItem 86 = .ok (.iconst 1, 1) := by decide +kernel
theorem dX1_takeItem_87 : decode cX1_takeItem 87 = .ok (.goto 4, 3) := by decide +kernel
theorem dX1_takeItem_90 : decode cX1_takeItem 90 = .ok (.iconst 0, 1) := by decide +kernel
theorem dX1_takeItem_91 : decode cX1_takeItem 91 = .ok (.ireturn, 1) := by decide +kernel
theorem dX1_takeDay_0 : decode cX1_takeDay 0 = .ok (.aload_n 1, 1) := by decide +kernel
theorem dX1_takeDay_1 : decode cX1_takeDay 1 = .ok (.invokevirtual 125, 3) := by decide +kernel
theorem dX1_takeDay_4 : decode cX1_takeDay 4 = .ok (.aload_n 0, 1) := by decide +kernel
theorem dX1_takeDay_5 : decode cX1_takeDay 5 = .ok (.getfield 12, 3) := by decide +kernel
theorem dX1_takeDay_8 : decode cX1_takeDay 8 = .ok (.aload_n 1, 1) := by decide +kernel
theorem dX1_takeDay_9 : decode cX1_takeDay 9 = .ok (.bipush 99, 2) := by decide +kernel
theorem dX1_takeDay_11 : decode cX1_takeDay 11 = .ok (.invokevirtual 128, 3) := by decide +kernel
theorem dX1_takeDay_14 : decode cX1_takeDay 14 = .ok (.putfield 132, 3) := by decide +kernel
theorem dX1_takeDay_17 : decode cX1_takeDay 17 = .ok (.aload_n 0, 1) := by decide +kernel
theorem dX1_takeDay_18 : decode cX1_takeDay 18 = .ok (.getfield 12, 3) := by decide +kernel
theorem dX1_takeDay_21 : decode cX1_takeDay 21 = .ok (.getfield 132, 3) := by decide +kernel
theorem dX1_takeDay_24 : decode cX1_takeDay 24 = .ok (.ifCond .lt 14, 3) := by decide +kernel
theorem dX1_takeDay_27 : decode cX1_takeDay 27 = .ok (.aload_n 1, 1) := by decide +kernel
theorem dX1_takeDay_28 : decode cX1_takeDay 28 = .ok (.invokevirtual 133, 3) := by decide +kernel
theorem dX1_takeDay_31 : decode cX1_takeDay 31 = .ok (.ifCond .eq 7, 3) := by decide +kernel
theorem dX1_takeDay_34 : decode cX1_takeDay 34 = .ok (.iconst 1, 1) := by decide +kernel
theorem dX1_takeDay_35 : decode cX1_takeDay 35 = .ok (.goto 4, 3) := by decide +kernel
theorem dX1_takeDay_38 : decode cX1_takeDay 38 = .ok (.iconst 0, 1) := by decide +kernel
theorem dX1_takeDay_39 : decode cX1_takeDay 39 = .ok (.ireturn, 1) := by decide +kernel
theorem dX1_takeDeputy_0 : decode cX1_takeDeputy 0 = .ok (.aload_n 0, 1) := by decide +kernel
theorem dX1_takeDeputy_1 : decode cX1_takeDeputy 1 = .ok (.getfield 40, 3) := by decide +kernel
theorem dX1_takeDeputy_4 : decode cX1_takeDeputy 4 = .ok (.bipush 6, 2) := by decide +kernel
theorem dX1_takeDeputy_6 : decode cX1_takeDeputy 6 = .ok (.if_icmp .lt 5, 3) := by decide +kernel
theorem dX1_takeDeputy_9 : decode cX1_takeDeputy 9 = .ok (.iconst 0, 1) := by decide +kernel
theorem dX1_takeDeputy_10 : decode cX1_takeDeputy 10 = .ok (.ireturn, 1) := by decide +kernel
theorem dX1_takeDeputy_11 : decode cX1_takeDeputy 11 = .ok (.aload_n 1, 1) := by decide +kernel
theorem dX1_takeDeputy_12 : decode cX1_takeDeputy 12 = .ok (.invokevirtual 125, 3) := by decide +kernel
theorem dX1_takeDeputy_15 : decode cX1_takeDeputy 15 = .ok (.aload_n 1, 1) := by decide +kernel
theorem dX1_takeDeputy_16 : decode cX1_takeDeputy 16 = .ok (.iconst 5, 1) := by decide +kernel
theorem dX1_takeDeputy_17 : decode cX1_takeDeputy 17 = .ok (.invokevirtual 128, 3) := by decide +kernel
theorem dX1_takeDeputy_20 : decode cX1_takeDeputy 20 = .ok (.istore_n 2, 1) := by decide +kernel
theorem dX1_takeDeputy_21 : decode cX1_takeDeputy 21 = .ok (.iload_n 2, 1) := by decide +kernel
theorem dX1_takeDeputy_22 : decode cX1_takeDeputy 22 = .ok (.ifCond .ge 7, 3) := by decide +kernel
theorem dX1_takeDeputy_25 : decode cX1_takeDeputy 25 = .ok (.iconst (-1), 1) := by decide +kernel
theorem dX1_takeDeputy_26 : decode cX1_takeDeputy 26 = .ok (.goto 9, 3) := by decide +kernel
theorem dX1_takeDeputy_29 : decode cX1_takeDeputy 29 = .ok (.aload_n 1, 1) := by decide +kernel
theorem dX1_takeDeputy_30 : decode cX1_takeDeputy 30 = .ok (.bipush 40, 2) := by decide +kernel
theorem dX1_takeDeputy_32 : decode cX1_takeDeputy 32 = .ok (.invokevirtual 128, 3) := by decide +kernel
theorem dX1_takeDeputy_35 : decode cX1_takeDeputy 35 = .ok (.istore_n 3, 1) := by decide +kernel
theorem dX1_takeDeputy_36 : decode cX1_takeDeputy 36 = .ok (.iload_n 3, 1) := by decide +kernel
theorem dX1_takeDeputy_37 : decode cX1_takeDeputy 37 = .ok (.ifCond .lt 10, 3) := by decide +kernel
theorem dX1_takeDeputy_40 : decode cX1_takeDeputy 40 = .ok (.aload_n 1, 1) := by decide +kernel
theorem dX1_takeDeputy_41 : decode cX1_takeDeputy 41 = .ok (.invokevirtual 133, 3) := by decide +kernel
theorem dX1_takeDeputy_44 : decode cX1_takeDeputy 44 = .ok (.ifCond .ne 5, 3) := by decide +kernel
theorem dX1_takeDeputy_47 : decode cX1_takeDeputy 47 = .ok (.iconst 0, 1) := by decide +kernel
theorem dX1_takeDeputy_48 : decode cX1_takeDeputy 48 = .ok (.ireturn, 1) := by decide +kernel
theorem dX1_takeDeputy_49 : decode cX1_takeDeputy 49 = .ok (.aload_n 0, 1) := by decide +kernel
theorem dX1_takeDeputy_50 : decode cX1_takeDeputy 50 = .ok (.iload_n 2, 1) := by decide +kernel
theorem dX1_takeDeputy_51 : decode cX1_takeDeputy 51 = .ok (.iconst 0, 1) := by decide +kernel
theorem dX1_takeDeputy_52 : decode cX1_takeDeputy 52 = .ok (.iconst 0, 1) := by decide +kernel
theorem dX1_takeDeputy_53 : decode cX1_takeDeputy 53 = .ok (.iload_n 3, 1) := by decide +kernel
theorem dX1_takeDeputy_54 : decode cX1_takeDeputy 54 = .ok (.invokevirtual 136, 3) := by decide +kernel
theorem dX1_takeDeputy_57 : decode cX1_takeDeputy 57 = .ok (.iconst 1, 1) := by decide +kernel
theorem dX1_takeDeputy_58 : decode cX1_takeDeputy 58 = .ok (.ireturn, 1) := by decide +kernel
theorem dX1_takeLeaning_0 : decode cX1_takeLeaning 0 = .ok (.aload_n 1, 1) := by decide +kernel
theorem dX1_takeLeaning_1 : decode cX1_takeLeaning 1 = .ok (.invokevirtual 125, 3) := by decide +kernel
theorem dX1_takeLeaning_4 : decode cX1_takeLeaning 4 = .ok (.aload_n 0, 1) := by decide +kernel
theorem dX1_takeLeaning_5 : decode cX1_takeLeaning 5 = .ok (.aload_n 1, 1) := by decide +kernel
theorem dX1_takeLeaning_6 : decode cX1_takeLeaning 6 = .ok (.aload_n 0, 1) := by decide +kernel
theorem dX1_takeLeaning_7 : decode cX1_takeLeaning 7 = .ok (.getfield 40, 3) := by decide +kernel
theorem dX1_takeLeaning_10 : decode cX1_takeLeaning 10 = .ok (.iconst 1, 1) := by decide +kernel
theorem dX1_takeLeaning_11 : decode cX1_takeLeaning 11 = .ok (.isub, 1) := by decide +kernel
theorem dX1_takeLeaning_12 : decode cX1_takeLeaning 12 = .ok (.invokevirtual 128, 3) := by decide +kernel
theorem dX1_takeLeaning_15 : decode cX1_takeLeaning 15 = .ok (.invokevirtual 140, 3) := by decide +kernel
theorem dX1_takeLeaning_18 : decode cX1_takeLeaning 18 = .ok (.astore_n 3, 1) := by decide +kernel
theorem dX1_takeLeaning_19 : decode cX1_takeLeaning 19 = .ok (.aload_n 3, 1) := by decide +kernel
theorem dX1_takeLeaning_20 : decode cX1_takeLeaning 20 = .ok (.ifnonnull 5, 3) := by decide +kernel
theorem dX1_takeLeaning_23 : decode cX1_takeLeaning 23 = .ok (.iconst 0, 1) := by decide +kernel
theorem dX1_takeLeaning_24 : decode cX1_takeLeaning 24 = .ok (.ireturn, 1) := by decide +kernel
theorem dX1_takeLeaning_25 : decode cX1_takeLeaning 25 = .ok (.aload_n 1, 1) := by decide +kernel
theorem dX1_takeLeaning_26 : decode cX1_takeLeaning 26 = .ok (.invokevirtual 144, 3) := by decide +kernel
theorem dX1_takeLeaning_29 : decode cX1_takeLeaning 29 = .ok (.istore 4, 2) := by decide +kernel
theorem dX1_takeLeaning_31 : decode cX1_takeLeaning 31 = .ok (.iload_n 2, 1) := by decide +kernel
theorem dX1_takeLeaning_32 : decode cX1_takeLeaning 32 = .ok (.ifCond .eq 12, 3) := by decide +kernel
theorem dX1_takeLeaning_35 : decode cX1_takeLeaning 35 = .ok (.aload_n 3, 1) := by decide +kernel
theorem dX1_takeLeaning_36 : decode cX1_takeLeaning 36 = .ok (.iload 4, 2) := by decide +kernel
theorem dX1_takeLeaning_38 : decode cX1_takeLeaning 38 = .ok (.putfield 63, 3) := by decide +kernel
theorem dX1_takeLeaning_41 : decode cX1_takeLeaning 41 = .ok (.goto 9, 3) := by decide +kernel
theorem dX1_takeLeaning_44 : decode cX1_takeLeaning 44 = .ok (.aload_n 3, 1) := by decide +kernel
theorem dX1_takeLeaning_45 : decode cX1_takeLeaning 45 = .ok (.iload 4, 2) := by decide +kernel
theorem dX1_takeLeaning_47 : decode cX1_takeLeaning 47 = .ok (.putfield 66, 3) := by decide +kernel
theorem dX1_takeLeaning_50 : decode cX1_takeLeaning 50 = .ok (.aload_n 1, 1) := by decide +kernel
theorem dX1_takeLeaning_51 : decode cX1_takeLeaning 51 = .ok (.invokevirtual 133, 3) := by decide +kernel
theorem dX1_takeLeaning_54 : decode cX1_takeLeaning 54 = .ok (.ireturn, 1) := by decide +kernel
theorem dX1_takeForce_0 : decode cX1_takeForce 0 = .ok (.aload_n 1, 1) := by decide +kernel
theorem dX1_takeForce_1 : decode cX1_takeForce 1 = .ok (.invokevirtual 125, 3) := by decide +kernel
theorem dX1_takeForce_4 : decode cX1_takeForce 4 = .ok (.aload_n 0, 1) := by decide +kernel
theorem dX1_takeForce_5 : decode cX1_takeForce 5 = .ok (.getfield 12, 3) := by decide +kernel
theorem dX1_takeForce_8 : decode cX1_takeForce 8 = .ok (.aload_n 1, 1) := by decide +kernel
theorem dX1_takeForce_9 : decode cX1_takeForce 9 = .ok (.invokevirtual 144, 3) := by decide +kernel
theorem dX1_takeForce_12 : decode cX1_takeForce 12 = .ok (.putfield 148, 3) := by decide +kernel
theorem dX1_takeForce_15 : decode cX1_takeForce 15 = .ok (.aload_n 1, 1) := by decide +kernel
theorem dX1_takeForce_16 : decode cX1_takeForce 16 = .ok (.invokevirtual 133, 3) := by decide +kernel
theorem dX1_takeForce_19 : decode cX1_takeForce 19 = .ok (.ireturn, 1) := by decide +kernel
theorem dX2_init_0 : decode cX2_init 0 = .ok (.aload_n 0, 1) := by decide +kernel
theorem dX2_init_1 : decode cX2_init 1 = .ok (.invokespecial 1, 3) := by decide +kernel
theorem dX2_init_4 : decode cX2_init 4 = .ok (.return_, 1) := by decide +kernel
theorem dX2_refuses_0 : decode cX2_refuses 0 = .ok (.aload_n 0, 1) := by decide +kernel
theorem dX2_refuses_1 : decode cX2_refuses 1 = .ok (.iload_n 1, 1) := by decide +kernel
theorem dX2_refuses_2 : decode cX2_refuses 2 = .ok (.iload_n 2, 1) := by decide +kernel
theorem dX2_refuses_3 : decode cX2_refuses 3 = .ok (.iload_n 3, 1) := by decide +kernel
theorem dX2_refuses_4 : decode cX2_refuses 4 = .ok (.invokespecial 7, 3) := by decide +kernel
theorem dX2_refuses_7 : decode cX2_refuses 7 = .ok (.ifCond .ne 9, 3) := by decide +kernel
theorem dX2_refuses_10 : decode cX2_refuses 10 = .ok (.iload_n 3, 1) := by decide +kernel
theorem dX2_refuses_11 : decode cX2_refuses 11 = .ok (.iconst 5, 1) := by decide +kernel
theorem dX2_refuses_12 : decode cX2_refuses 12 = .ok (.irem, 1) := by decide +kernel
theorem dX2_refuses_13 : decode cX2_refuses 13 = .ok (.ifCond .ne 7, 3) := by decide +kernel
theorem dX2_refuses_16 : decode cX2_refuses 16 = .ok (.iconst 1, 1) := by decide +kernel
theorem dX2_refuses_17 : decode cX2_refuses 17 = .ok (.goto 4, 3) := by decide +kernel
theorem dX2_refuses_20 : decode cX2_refuses 20 = .ok (.iconst 0, 1) := by decide +kernel
theorem dX2_refuses_21 : decode cX2_refuses 21 = .ok (.ireturn, 1) := by decide +kernel
theorem dX2_costAt_0 : decode cX2_costAt 0 = .ok (.iconst 2, 1) := by decide +kernel
theorem dX2_costAt_1 : decode cX2_costAt 1 = .ok (.aload_n 0, 1) := by decide +kernel
theorem dX2_costAt_2 : decode cX2_costAt 2 = .ok (.iload_n 1, 1) := by decide +kernel
theorem dX2_costAt_3 : decode cX2_costAt 3 = .ok (.invokespecial 11, 3) := by decide +kernel
theorem dX2_costAt_6 : decode cX2_costAt 6 = .ok (.imul, 1) := by decide +kernel
theorem dX2_costAt_7 : decode cX2_costAt 7 = .ok (.ireturn, 1) := by decide +kernel
theorem dX3_init_0 : decode cX3_init 0 = .ok (.aload_n 0, 1) := by decide +kernel
theorem dX3_init_1 : decode cX3_init 1 = .ok (.invokespecial 1, 3) := by decide +kernel
theorem dX3_init_4 : decode cX3_init 4 = .ok (.return_, 1) := by decide +kernel
theorem dX3_refuses_0 : decode cX3_refuses 0 = .ok (.iload_n 3, 1) := by decide +kernel
theorem dX3_refuses_1 : decode cX3_refuses 1 = .ok (.iconst 2, 1) := by decide +kernel
theorem dX3_refuses_2 : decode cX3_refuses 2 = .ok (.irem, 1) := by decide +kernel
theorem dX3_refuses_3 : decode cX3_refuses 3 = .ok (.ifCond .ne 17, 3) := by decide +kernel
theorem dX3_refuses_6 : decode cX3_refuses 6 = .ok (.aload_n 0, 1) := by decide +kernel
theorem dX3_refuses_7 : decode cX3_refuses 7 = .ok (.iload_n 1, 1) := by decide +kernel
theorem dX3_refuses_8 : decode cX3_refuses 8 = .ok (.iload_n 2, 1) := by decide +kernel
theorem dX3_refuses_9 : decode cX3_refuses 9 = .ok (.iload_n 3, 1) := by decide +kernel
theorem dX3_refuses_10 : decode cX3_refuses 10 = .ok (.invokespecial 7, 3) := by decide +kernel
theorem dX3_refuses_13 : decode cX3_refuses 13 = .ok (.ifCond .eq 7, 3) := by decide +kernel
theorem dX3_refuses_16 : decode cX3_refuses 16 = .ok (.iconst 1, 1) := by decide +kernel
theorem dX3_refuses_17 : decode cX3_refuses 17 = .ok (.goto 4, 3) := by decide +kernel
theorem dX3_refuses_20 : decode cX3_refuses 20 = .ok (.iconst 0, 1) := by decide +kernel
theorem dX3_refuses_21 : decode cX3_refuses 21 = .ok (.ireturn, 1) := by decide +kernel
theorem dX4_init_0 : decode cX4_init 0 = .ok (.aload_n 0, 1) := by decide +kernel
theorem dX4_init_1 : decode cX4_init 1 = .ok (.invokespecial 1, 3) := by decide +kernel
theorem dX4_init_4 : decode cX4_init 4 = .ok (.return_, 1) := by decide +kernel
theorem dX4_copyFrom_0 : decode cX4_copyFrom 0 = .ok (.aload_n 0, 1) := by decide +kernel
theorem dX4_copyFrom_1 : decode cX4_copyFrom 1 = .ok (.aload_n 1, 1) := by decide +kernel
theorem dX4_copyFrom_2 : decode cX4_copyFrom 2 = .ok (.getfield 7, 3) := by decide +kernel
theorem dX4_copyFrom_5 : decode cX4_copyFrom 5 = .ok (.putfield 7, 3) := by decide +kernel
theorem dX4_copyFrom_8 : decode cX4_copyFrom 8 = .ok (.aload_n 0, 1) := by decide +kernel
theorem dX4_copyFrom_9 : decode cX4_copyFrom 9 = .ok (.aload_n 1, 1) := by decide +kernel
theorem dX4_copyFrom_10 : decode cX4_copyFrom 10 = .ok (.getfield 13, 3) := by decide +kernel
theorem dX4_copyFrom_13 : decode cX4_copyFrom 13 = .ok (.putfield 13, 3) := by decide +kernel
theorem dX4_copyFrom_16 : decode cX4_copyFrom 16 = .ok (.aload_n 0, 1) := by decide +kernel
theorem dX4_copyFrom_17 : decode cX4_copyFrom 17 = .ok (.aload_n 1, 1) := by decide +kernel
theorem dX4_copyFrom_18 : decode cX4_copyFrom 18 = .ok (.getfield 16, 3) := by decide +kernel
theorem dX4_copyFrom_21 : decode cX4_copyFrom 21 = .ok (.putfield 16, 3) := by decide +kernel
theorem dX4_copyFrom_24 : decode cX4_copyFrom 24 = .ok (.aload_n 0, 1) := by decide +kernel
theorem dX4_copyFrom_25 : decode cX4_copyFrom 25 = .ok (.aload_n 1, 1) := by decide +kernel
theorem dX4_copyFrom_26 : decode cX4_copyFrom 26 = .ok (.getfield 19, 3) := by decide +kernel
theorem dX4_copyFrom_29 : decode cX4_copyFrom 29 = .ok (.putfield 19, 3) := by decide +kernel
theorem dX4_copyFrom_32 : decode cX4_copyFrom 32 = .ok (.return_, 1) := by decide +kernel
theorem dX5_init_0 : decode cX5_init 0 = .ok (.aload_n 0, 1) := by decide +kernel
theorem dX5_init_1 : decode cX5_init 1 = .ok (.invokespecial 1, 3) := by decide +kernel
theorem dX5_init_4 : decode cX5_init 4 = .ok (.return_, 1) := by decide +kernel
theorem dX5_joyBy_0 : decode cX5_joyBy 0 = .ok (.iconst 2, 1) := by decide +kernel
theorem dX5_joyBy_1 : decode cX5_joyBy 1 = .ok (.iload_n 1, 1) := by decide +kernel
theorem dX5_joyBy_2 : decode cX5_joyBy 2 = .ok (.imul, 1) := by decide +kernel
theorem dX5_joyBy_3 : decode cX5_joyBy 3 = .ok (.iconst 3, 1) := by decide +kernel
theorem dX5_joyBy_4 : decode cX5_joyBy 4 = .ok (.iload_n 2, 1) := by decide +kernel
theorem dX5_joyBy_5 : decode cX5_joyBy 5 = .ok (.imul, 1) := by decide +kernel
theorem dX5_joyBy_6 : decode cX5_joyBy 6 = .ok (.isub, 1) := by decide +kernel
theorem dX5_joyBy_7 : decode cX5_joyBy 7 = .ok (.ireturn, 1) := by decide +kernel
theorem dX5_refuses_0 : decode cX5_refuses 0 = .ok (.iload_n 1, 1) := by decide +kernel
theorem dX5_refuses_1 : decode cX5_refuses 1 = .ok (.ifCond .ge 7, 3) := by decide +kernel
theorem dX5_refuses_4 : decode cX5_refuses 4 = .ok (.iconst 1, 1) := by decide +kernel
theorem dX5_refuses_5 : decode cX5_refuses 5 = .ok (.goto 4, 3) := by decide +kernel
theorem dX5_refuses_8 : decode cX5_refuses 8 = .ok (.iconst 0, 1) := by decide +kernel
theorem dX5_refuses_9 : decode cX5_refuses 9 = .ok (.ireturn, 1) := by decide +kernel
theorem dX5_costAt_0 : decode cX5_costAt 0 = .ok (.iload_n 1, 1) := by decide +kernel
theorem dX5_costAt_1 : decode cX5_costAt 1 = .ok (.ireturn, 1) := by decide +kernel
theorem dX6_init_0 : decode cX6_init 0 = .ok (.aload_n 0, 1) := by decide +kernel
theorem dX6_init_1 : decode cX6_init 1 = .ok (.invokespecial 1, 3) := by decide +kernel
theorem dX6_init_4 : decode cX6_init 4 = .ok (.return_, 1) := by decide +kernel
theorem dX6_costAt_0 : decode cX6_costAt 0 = .ok (.aload_n 0, 1) := by decide +kernel
theorem dX6_costAt_1 : decode cX6_costAt 1 = .ok (.iload_n 1, 1) := by decide +kernel
theorem dX6_costAt_2 : decode cX6_costAt 2 = .ok (.invokespecial 7, 3) := by decide +kernel
theorem dX6_costAt_5 : decode cX6_costAt 5 = .ok (.iconst 1, 1) := by decide +kernel
theorem dX6_costAt_6 : decode cX6_costAt 6 = .ok (.iadd, 1) := by decide +kernel
theorem dX6_costAt_7 : decode cX6_costAt 7 = .ok (.iconst 2, 1) := by decide +kernel
theorem dX6_costAt_8 : decode cX6_costAt 8 = .ok (.idiv, 1) := by decide +kernel
theorem dX6_costAt_9 : decode cX6_costAt 9 = .ok (.ireturn, 1) := by decide +kernel
theorem dX7_init_0 : decode cX7_init 0 = .ok (.aload_n 0, 1) := by decide +kernel
theorem dX7_init_1 : decode cX7_init 1 = .ok (.invokespecial 1, 3) := by decide +kernel
theorem dX7_init_4 : decode cX7_init 4 = .ok (.return_, 1) := by decide +kernel
theorem dX7_refuses_0 : decode cX7_refuses 0 = .ok (.aload_n 0, 1) := by decide +kernel
theorem dX7_refuses_1 : decode cX7_refuses 1 = .ok (.iload_n 1, 1) := by decide +kernel
theorem dX7_refuses_2 : decode cX7_refuses 2 = .ok (.iload_n 2, 1) := by decide +kernel
theorem dX7_refuses_3 : decode cX7_refuses 3 = .ok (.iload_n 3, 1) := by decide +kernel
theorem dX7_refuses_4 : decode cX7_refuses 4 = .ok (.invokespecial 7, 3) := by decide +kernel
theorem dX7_refuses_7 : decode cX7_refuses 7 = .ok (.ifCond .ne 7, 3) := by decide +kernel
theorem dX7_refuses_10 : decode cX7_refuses 10 = .ok (.iload_n 2, 1) := by decide +kernel
theorem dX7_refuses_11 : decode cX7_refuses 11 = .ok (.ifCond .le 7, 3) := by decide +kernel
theorem dX7_refuses_14 : decode cX7_refuses 14 = .ok (.iconst 1, 1) := by decide +kernel
theorem dX7_refuses_15 : decode cX7_refuses 15 = .ok (.goto 4, 3) := by decide +kernel
theorem dX7_refuses_18 : decode cX7_refuses 18 = .ok (.iconst 0, 1) := by decide +kernel
theorem dX7_refuses_19 : decode cX7_refuses 19 = .ok (.ireturn, 1) := by decide +kernel
theorem dX8_init_0 : decode cX8_init 0 = .ok (.aload_n 0, 1) := by decide +kernel
theorem dX8_init_1 : decode cX8_init 1 = .ok (.invokespecial 3, 3) := by decide +kernel
theorem dX8_init_4 : decode cX8_init 4 = .ok (.return_, 1) := by decide +kernel
theorem dX8_startOn_0 : decode cX8_startOn 0 = .ok (.aload_n 0, 1) := by decide +kernel
theorem dX8_startOn_1 : decode cX8_startOn 1 = .ok (.iload_n 1, 1) := by decide +kernel
theorem dX8_startOn_2 : decode cX8_startOn 2 = .ok (.putfield 9, 3) := by decide +kernel
theorem dX8_startOn_5 : decode cX8_startOn 5 = .ok (.aload_n 0, 1) := by decide +kernel
theorem dX8_startOn_6 : decode cX8_startOn 6 = .ok (.iconst 0, 1) := by decide +kernel
theorem dX8_startOn_7 : decode cX8_startOn 7 = .ok (.putfield 15, 3) := by decide +kernel
theorem dX8_startOn_10 : decode cX8_startOn 10 = .ok (.aload_n 0, 1) := by decide +kernel
theorem dX8_startOn_11 : decode cX8_startOn 11 = .ok (.iconst 0, 1) := by decide +kernel
theorem dX8_startOn_12 : decode cX8_startOn 12 = .ok (.putfield 18, 3) := by decide +kernel
theorem dX8_startOn_15 : decode cX8_startOn 15 = .ok (.aload_n 0, 1) := by decide +kernel
theorem dX8_startOn_16 : decode cX8_startOn 16 = .ok (.iconst 0, 1) := by decide +kernel
theorem dX8_startOn_17 : decode cX8_startOn 17 = .ok (.putfield 21, 3) := by decide +kernel
theorem dX8_startOn_20 : decode cX8_startOn 20 = .ok (.aload_n 0, 1) := by decide +kernel
theorem dX8_startOn_21 : decode cX8_startOn 21 = .ok (.iconst 0, 1) := by decide +kernel
theorem dX8_startOn_22 : decode cX8_startOn 22 = .ok (.putfield 24, 3) := by decide +kernel
theorem dX8_startOn_25 : decode cX8_startOn 25 = .ok (.aload_n 0, 1) := by decide +kernel
theorem dX8_startOn_26 : decode cX8_startOn 26 = .ok (.iconst 0, 1) := by decide +kernel
theorem dX8_startOn_27 : decode cX8_startOn 27 = .ok (.putfield 27, 3) := by decide +kernel
theorem dX8_startOn_30 : decode cX8_startOn 30 = .ok (.return_, 1) := by decide +kernel
theorem dX8_copyFrom_0 : decode cX8_copyFrom 0 = .ok (.aload_n 0, 1) := by decide +kernel
theorem dX8_copyFrom_1 : decode cX8_copyFrom 1 = .ok (.aload_n 1, 1) := by decide +kernel
theorem dX8_copyFrom_2 : decode cX8_copyFrom 2 = .ok (.getfield 9, 3) := by decide +kernel
theorem dX8_copyFrom_5 : decode cX8_copyFrom 5 = .ok (.putfield 9, 3) := by decide +kernel
theorem dX8_copyFrom_8 : decode cX8_copyFrom 8 = .ok (.aload_n 0, 1) := by decide +kernel
theorem dX8_copyFrom_9 : decode cX8_copyFrom 9 = .ok (.aload_n 1, 1) := by decide +kernel
theorem dX8_copyFrom_10 : decode cX8_copyFrom 10 = .ok (.getfield 15, 3) := by decide +kernel
theorem dX8_copyFrom_13 : decode cX8_copyFrom 13 = .ok (.putfield 15, 3) := by decide +kernel
theorem dX8_copyFrom_16 : decode cX8_copyFrom 16 = .ok (.aload_n 0, 1) := by decide +kernel
theorem dX8_copyFrom_17 : decode cX8_copyFrom 17 = .ok (.aload_n 1, 1) := by decide +kernel
theorem dX8_copyFrom_18 : decode cX8_copyFrom 18 = .ok (.getfield 18, 3) := by decide +kernel
theorem dX8_copyFrom_21 : decode cX8_copyFrom 21 = .ok (.putfield 18, 3) := by decide +kernel
theorem dX8_copyFrom_24 : decode cX8_copyFrom 24 = .ok (.aload_n 0, 1) := by decide +kernel
theorem dX8_copyFrom_25 : decode cX8_copyFrom 25 = .ok (.aload_n 1, 1) := by decide +kernel
theorem dX8_copyFrom_26 : decode cX8_copyFrom 26 = .ok (.getfield 21, 3) := by decide +kernel
theorem dX8_copyFrom_29 : decode cX8_copyFrom 29 = .ok (.putfield 21, 3) := by decide +kernel
