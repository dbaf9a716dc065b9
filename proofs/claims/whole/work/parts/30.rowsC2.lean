theorem dX12_forget_17 : decode cX12_forget 17 = .ok (.ireturn, 1) := by decide +kernel
theorem dX12_areSo_0 : decode cX12_areSo 0 = .ok (.iconst 1, 1) := by decide +kernel
theorem dX12_areSo_1 : decode cX12_areSo 1 = .ok (.istore_n 2, 1) := by decide +kernel
theorem dX12_areSo_2 : decode cX12_areSo 2 = .ok (.iconst 0, 1) := by decide +kernel
theorem dX12_areSo_3 : decode cX12_areSo 3 = .ok (.istore_n 3, 1) := by decide +kernel
theorem dX12_areSo_4 : decode cX12_areSo 4 = .ok (.iload_n 3, 1) := by decide +kernel
theorem dX12_areSo_5 : decode cX12_areSo 5 = .ok (.aload_n 0, 1) := by decide +kernel
theorem dX12_areSo_6 : decode cX12_areSo 6 = .ok (.getfield 7, 3) := by decide +kernel
theorem dX12_areSo_9 : decode cX12_areSo 9 = .ok (.bipush 7, 2) := by decide +kernel
theorem dX12_areSo_11 : decode cX12_areSo 11 = .ok (.iaload, 1) := by decide +kernel
theorem dX12_areSo_12 : decode cX12_areSo 12 = .ok (.if_icmp .ge 86, 3) := by decide +kernel
theorem dX12_areSo_15 : decode cX12_areSo 15 = .ok (.bipush 33, 2) := by decide +kernel
theorem dX12_areSo_17 : decode cX12_areSo 17 = .ok (.iconst 4, 1) := by decide +kernel
theorem dX12_areSo_18 : decode cX12_areSo 18 = .ok (.iload_n 3, 1) := by decide +kernel
theorem dX12_areSo_19 : decode cX12_areSo 19 = .ok (.imul, 1) := by decide +kernel
theorem dX12_areSo_20 : decode cX12_areSo 20 = .ok (.iadd, 1) := by decide +kernel
theorem dX12_areSo_21 : decode cX12_areSo 21 = .ok (.istore 4, 2) := by decide +kernel
theorem dX12_areSo_23 : decode cX12_areSo 23 = .ok (.aload_n 0, 1) := by decide +kernel
theorem dX12_areSo_24 : decode cX12_areSo 24 = .ok (.aload_n 0, 1) := by decide +kernel
theorem dX12_areSo_25 : decode cX12_areSo 25 = .ok (.getfield 7, 3) := by decide +kernel
theorem dX12_areSo_28 : decode cX12_areSo 28 = .ok (.iload 4, 2) := by decide +kernel
theorem dX12_areSo_30 : decode cX12_areSo 30 = .ok (.iconst 2, 1) := by decide +kernel
theorem dX12_areSo_31 : decode cX12_areSo 31 = .ok (.iadd, 1) := by decide +kernel
theorem dX12_areSo_32 : decode cX12_areSo 32 = .ok (.iaload, 1) := by decide +kernel
theorem dX12_areSo_33 : decode cX12_areSo 33 = .ok (.putfield 88, 3) := by decide +kernel
theorem dX12_areSo_36 : decode cX12_areSo 36 = .ok (.iload_n 2, 1) := by decide +kernel
theorem dX12_areSo_37 : decode cX12_areSo 37 = .ok (.ifCond .eq 53, 3) := by decide +kernel
theorem dX12_areSo_40 : decode cX12_areSo 40 = .ok (.aload_n 0, 1) := by decide +kernel
theorem dX12_areSo_41 : decode cX12_areSo 41 = .ok (.getfield 7, 3) := by decide +kernel
theorem dX12_areSo_44 : decode cX12_areSo 44 = .ok (.iload 4, 2) := by decide +kernel
theorem dX12_areSo_46 : decode cX12_areSo 46 = .ok (.iaload, 1) := by decide +kernel
theorem dX12_areSo_47 : decode cX12_areSo 47 = .ok (.iload_n 1, 1) := by decide +kernel
theorem dX12_areSo_48 : decode cX12_areSo 48 = .ok (.if_icmp .ne 38, 3) := by decide +kernel
theorem dX12_areSo_51 : decode cX12_areSo 51 = .ok (.aload_n 0, 1) := by decide +kernel
theorem dX12_areSo_52 : decode cX12_areSo 52 = .ok (.iload_n 1, 1) := by decide +kernel
theorem dX12_areSo_53 : decode cX12_areSo 53 = .ok (.aload_n 0, 1) := by decide +kernel
theorem dX12_areSo_54 : decode cX12_areSo 54 = .ok (.getfield 7, 3) := by decide +kernel
theorem dX12_areSo_57 : decode cX12_areSo 57 = .ok (.iload 4, 2) := by decide +kernel
theorem dX12_areSo_59 : decode cX12_areSo 59 = .ok (.iconst 1, 1) := by decide +kernel
theorem dX12_areSo_60 : decode cX12_areSo 60 = .ok (.iadd, 1) := by decide +kernel
theorem dX12_areSo_61 : decode cX12_areSo 61 = .ok (.iaload, 1) := by decide +kernel
theorem dX12_areSo_62 : decode cX12_areSo 62 = .ok (.invokevirtual 101, 3) := by decide +kernel
theorem dX12_areSo_65 : decode cX12_areSo 65 = .ok (.aload_n 0, 1) := by decide +kernel
theorem dX12_areSo_66 : decode cX12_areSo 66 = .ok (.getfield 7, 3) := by decide +kernel
theorem dX12_areSo_69 : decode cX12_areSo 69 = .ok (.iload 4, 2) := by decide +kernel
theorem dX12_areSo_71 : decode cX12_areSo 71 = .ok (.iconst 3, 1) := by decide +kernel
theorem dX12_areSo_72 : decode cX12_areSo 72 = .ok (.iadd, 1) := by decide +kernel
theorem dX12_areSo_73 : decode cX12_areSo 73 = .ok (.iaload, 1) := by decide +kernel
theorem dX12_areSo_74 : decode cX12_areSo 74 = .ok (.iconst 1, 1) := by decide +kernel
theorem dX12_areSo_75 : decode cX12_areSo 75 = .ok (.if_icmp .ne 7, 3) := by decide +kernel
theorem dX12_areSo_78 : decode cX12_areSo 78 = .ok (.iconst 1, 1) := by decide +kernel
theorem dX12_areSo_79 : decode cX12_areSo 79 = .ok (.goto 4, 3) := by decide +kernel
theorem dX12_areSo_82 : decode cX12_areSo 82 = .ok (.iconst 0, 1) := by decide +kernel
theorem dX12_areSo_83 : decode cX12_areSo 83 = .ok (.if_icmp .ne 7, 3) := by decide +kernel
theorem dX12_areSo_86 : decode cX12_areSo 86 = .ok (.iconst 1, 1) := by decide +kernel
theorem dX12_areSo_87 : decode cX12_areSo 87 = .ok (.goto 4, 3) := by decide +kernel
theorem dX12_areSo_90 : decode cX12_areSo 90 = .ok (.iconst 0, 1) := by decide +kernel
theorem dX12_areSo_91 : decode cX12_areSo 91 = .ok (.istore_n 2, 1) := by decide +kernel
theorem dX12_areSo_92 : decode cX12_areSo 92 = .ok (.iinc 3 1, 3) := by decide +kernel
theorem dX12_areSo_95 : decode cX12_areSo 95 = .ok (.goto (-91), 3) := by decide +kernel
theorem dX12_areSo_98 : decode cX12_areSo 98 = .ok (.aload_n 0, 1) := by decide +kernel
theorem dX12_areSo_99 : decode cX12_areSo 99 = .ok (.aload_n 0, 1) := by decide +kernel
theorem dX12_areSo_100 : decode cX12_areSo 100 = .ok (.getfield 7, 3) := by decide +kernel
theorem dX12_areSo_103 : decode cX12_areSo 103 = .ok (.bipush 6, 2) := by decide +kernel
theorem dX12_areSo_105 : decode cX12_areSo 105 = .ok (.iaload, 1) := by decide +kernel
theorem dX12_areSo_106 : decode cX12_areSo 106 = .ok (.putfield 88, 3) := by decide +kernel
theorem dX12_areSo_109 : decode cX12_areSo 109 = .ok (.iload_n 2, 1) := by decide +kernel
theorem dX12_areSo_110 : decode cX12_areSo 110 = .ok (.ireturn, 1) := by decide +kernel
theorem dX12_kindsOf_0 : decode cX12_kindsOf 0 = .ok (.iconst 0, 1) := by decide +kernel
theorem dX12_kindsOf_1 : decode cX12_kindsOf 1 = .ok (.istore_n 2, 1) := by decide +kernel
theorem dX12_kindsOf_2 : decode cX12_kindsOf 2 = .ok (.aload_n 0, 1) := by decide +kernel
theorem dX12_kindsOf_3 : decode cX12_kindsOf 3 = .ok (.invokevirtual 110, 3) := by decide +kernel
theorem dX12_kindsOf_6 : decode cX12_kindsOf 6 = .ok (.iconst 0, 1) := by decide +kernel
theorem dX12_kindsOf_7 : decode cX12_kindsOf 7 = .ok (.istore_n 3, 1) := by decide +kernel
theorem dX12_kindsOf_8 : decode cX12_kindsOf 8 = .ok (.iload_n 3, 1) := by decide +kernel
theorem dX12_kindsOf_9 : decode cX12_kindsOf 9 = .ok (.bipush 6, 2) := by decide +kernel
theorem dX12_kindsOf_11 : decode cX12_kindsOf 11 = .ok (.if_icmp .ge 34, 3) := by decide +kernel
theorem dX12_kindsOf_14 : decode cX12_kindsOf 14 = .ok (.aload_n 0, 1) := by decide +kernel
theorem dX12_kindsOf_15 : decode cX12_kindsOf 15 = .ok (.getfield 27, 3) := by decide +kernel
theorem dX12_kindsOf_18 : decode cX12_kindsOf 18 = .ok (.iload_n 1, 1) := by decide +kernel
theorem dX12_kindsOf_19 : decode cX12_kindsOf 19 = .ok (.iload_n 3, 1) := by decide +kernel
theorem dX12_kindsOf_20 : decode cX12_kindsOf 20 = .ok (.iastore, 1) := by decide +kernel
theorem dX12_kindsOf_21 : decode cX12_kindsOf 21 = .ok (.iload_n 2, 1) := by decide +kernel
theorem dX12_kindsOf_22 : decode cX12_kindsOf 22 = .ok (.aload_n 0, 1) := by decide +kernel
theorem dX12_kindsOf_23 : decode cX12_kindsOf 23 = .ok (.iload_n 1, 1) := by decide +kernel
theorem dX12_kindsOf_24 : decode cX12_kindsOf 24 = .ok (.invokevirtual 145, 3) := by decide +kernel
theorem dX12_kindsOf_27 : decode cX12_kindsOf 27 = .ok (.ifCond .eq 9, 3) := by decide +kernel
theorem dX12_kindsOf_30 : decode cX12_kindsOf 30 = .ok (.iconst 1, 1) := by decide +kernel
theorem dX12_kindsOf_31 : decode cX12_kindsOf 31 = .ok (.iload_n 3, 1) := by decide +kernel
theorem dX12_kindsOf_32 : decode cX12_kindsOf 32 = .ok (.ishl, 1) := by decide +kernel
theorem dX12_kindsOf_33 : decode cX12_kindsOf 33 = .ok (.goto 4, 3) := by decide +kernel
theorem dX12_kindsOf_36 : decode cX12_kindsOf 36 = .ok (.iconst 0, 1) := by decide +kernel
theorem dX12_kindsOf_37 : decode cX12_kindsOf 37 = .ok (.ior, 1) := by decide +kernel
theorem dX12_kindsOf_38 : decode cX12_kindsOf 38 = .ok (.istore_n 2, 1) := by decide +kernel
theorem dX12_kindsOf_39 : decode cX12_kindsOf 39 = .ok (.iinc 3 1, 3) := by decide +kernel
theorem dX12_kindsOf_42 : decode cX12_kindsOf 42 = .ok (.goto (-34), 3) := by decide +kernel
theorem dX12_kindsOf_45 : decode cX12_kindsOf 45 = .ok (.iload_n 2, 1) := by decide +kernel
theorem dX12_kindsOf_46 : decode cX12_kindsOf 46 = .ok (.ireturn, 1) := by decide +kernel
theorem dX12_is_0 : decode cX12_is 0 = .ok (.aload_n 0, 1) := by decide +kernel
theorem dX12_is_1 : decode cX12_is 1 = .ok (.iload_n 1, 1) := by decide +kernel
theorem dX12_is_2 : decode cX12_is 2 = .ok (.invokevirtual 123, 3) := by decide +kernel
theorem dX12_is_5 : decode cX12_is 5 = .ok (.ifCond .eq 11, 3) := by decide +kernel
theorem dX12_is_8 : decode cX12_is 8 = .ok (.aload_n 0, 1) := by decide +kernel
theorem dX12_is_9 : decode cX12_is 9 = .ok (.iload_n 1, 1) := by decide +kernel
theorem dX12_is_10 : decode cX12_is 10 = .ok (.invokevirtual 148, 3) := by decide +kernel
theorem dX12_is_13 : decode cX12_is 13 = .ok (.goto 9, 3) := by decide +kernel
theorem dX12_is_16 : decode cX12_is 16 = .ok (.aload_n 0, 1) := by decide +kernel
theorem dX12_is_17 : decode cX12_is 17 = .ok (.bipush (-2), 2) := by decide +kernel
theorem dX12_is_19 : decode cX12_is 19 = .ok (.invokevirtual 61, 3) := by decide +kernel
theorem dX12_is_22 : decode cX12_is 22 = .ok (.ireturn, 1) := by decide +kernel
theorem dX12_holds_0 : decode cX12_holds 0 = .ok (.aload_n 0, 1) := by decide +kernel
theorem dX12_holds_1 : decode cX12_holds 1 = .ok (.iload_n 1, 1) := by decide +kernel
theorem dX12_holds_2 : decode cX12_holds 2 = .ok (.invokevirtual 123, 3) := by decide +kernel
theorem dX12_holds_5 : decode cX12_holds 5 = .ok (.ifCond .eq 15, 3) := by decide +kernel
theorem dX12_holds_8 : decode cX12_holds 8 = .ok (.iload_n 2, 1) := by decide +kernel
theorem dX12_holds_9 : decode cX12_holds 9 = .ok (.i2l, 1) := by decide +kernel
theorem dX12_holds_10 : decode cX12_holds 10 = .ok (.lconst 0, 1) := by decide +kernel
theorem dX12_holds_11 : decode cX12_holds 11 = .ok (.ldc2_w 151, 3) := by decide +kernel
theorem dX12_holds_14 : decode cX12_holds 14 = .ok (.invokestatic 53, 3) := by decide +kernel
theorem dX12_holds_17 : decode cX12_holds 17 = .ok (.ifCond .ne 10, 3) := by decide +kernel
theorem dX12_holds_20 : decode cX12_holds 20 = .ok (.aload_n 0, 1) := by decide +kernel
theorem dX12_holds_21 : decode cX12_holds 21 = .ok (.bipush (-2), 2) := by decide +kernel
theorem dX12_holds_23 : decode cX12_holds 23 = .ok (.invokevirtual 61, 3) := by decide +kernel
theorem dX12_holds_26 : decode cX12_holds 26 = .ok (.ireturn, 1) := by decide +kernel
theorem dX12_holds_27 : decode cX12_holds 27 = .ok (.iconst 0, 1) := by decide +kernel
theorem dX12_holds_28 : decode cX12_holds 28 = .ok (.istore_n 3, 1) := by decide +kernel
theorem dX12_holds_29 : decode cX12_holds 29 = .ok (.aload_n 0, 1) := by decide +kernel
theorem dX12_holds_30 : decode cX12_holds 30 = .ok (.invokevirtual 110, 3) := by decide +kernel
theorem dX12_holds_33 : decode cX12_holds 33 = .ok (.iconst 0, 1) := by decide +kernel
theorem dX12_holds_34 : decode cX12_holds 34 = .ok (.istore 4, 2) := by decide +kernel
theorem dX12_holds_36 : decode cX12_holds 36 = .ok (.iload 4, 2) := by decide +kernel
theorem dX12_holds_38 : decode cX12_holds 38 = .ok (.iconst 3, 1) := by decide +kernel
theorem dX12_holds_39 : decode cX12_holds 39 = .ok (.if_icmp .ge 91, 3) := by decide +kernel
theorem dX12_holds_42 : decode cX12_holds 42 = .ok (.aload_n 0, 1) := by decide +kernel
theorem dX12_holds_43 : decode cX12_holds 43 = .ok (.getfield 30, 3) := by decide +kernel
theorem dX12_holds_46 : decode cX12_holds 46 = .ok (.iload_n 1, 1) := by decide +kernel
theorem dX12_holds_47 : decode cX12_holds 47 = .ok (.aload_n 0, 1) := by decide +kernel
theorem dX12_holds_48 : decode cX12_holds 48 = .ok (.iload_n 1, 1) := by decide +kernel
theorem dX12_holds_49 : decode cX12_holds 49 = .ok (.iconst 1, 1) := by decide +kernel
theorem dX12_holds_50 : decode cX12_holds 50 = .ok (.invokevirtual 80, 3) := by decide +kernel
theorem dX12_holds_53 : decode cX12_holds 53 = .ok (.iconst 1, 1) := by decide +kernel
theorem dX12_holds_54 : decode cX12_holds 54 = .ok (.iload_n 2, 1) := by decide +kernel
theorem dX12_holds_55 : decode cX12_holds 55 = .ok (.ishl, 1) := by decide +kernel
theorem dX12_holds_56 : decode cX12_holds 56 = .ok (.iconst (-1), 1) := by decide +kernel
theorem dX12_holds_57 : decode cX12_holds 57 = .ok (.ixor, 1) := by decide +kernel
theorem dX12_holds_58 : decode cX12_holds 58 = .ok (.iand, 1) := by decide +kernel
theorem dX12_holds_59 : decode cX12_holds 59 = .ok (.iload 4, 2) := by decide +kernel
theorem dX12_holds_61 : decode cX12_holds 61 = .ok (.ifCond .ne 9, 3) := by decide +kernel
theorem dX12_holds_64 : decode cX12_holds 64 = .ok (.iconst 1, 1) := by decide +kernel
theorem dX12_holds_65 : decode cX12_holds 65 = .ok (.iload_n 2, 1) := by decide +kernel
theorem dX12_holds_66 : decode cX12_holds 66 = .ok (.ishl, 1) := by decide +kernel
theorem dX12_holds_67 : decode cX12_holds 67 = .ok (.goto 4, 3) := by decide +kernel
theorem dX12_holds_70 : decode cX12_holds 70 = .ok (.iconst 0, 1) := by decide +kernel
theorem dX12_holds_71 : decode cX12_holds 71 = .ok (.ior, 1) := by decide +kernel
theorem dX12_holds_72 : decode cX12_holds 72 = .ok (.iastore, 1) := by decide +kernel
theorem dX12_holds_73 : decode cX12_holds 73 = .ok (.aload_n 0, 1) := by decide +kernel
theorem dX12_holds_74 : decode cX12_holds 74 = .ok (.getfield 33, 3) := by decide +kernel
theorem dX12_holds_77 : decode cX12_holds 77 = .ok (.iload_n 1, 1) := by decide +kernel
theorem dX12_holds_78 : decode cX12_holds 78 = .ok (.aload_n 0, 1) := by decide +kernel
theorem dX12_holds_79 : decode cX12_holds 79 = .ok (.iload_n 1, 1) := by decide +kernel
theorem dX12_holds_80 : decode cX12_holds 80 = .ok (.iconst 2, 1) := by decide +kernel
theorem dX12_holds_81 : decode cX12_holds 81 = .ok (.invokevirtual 80, 3) := by decide +kernel
theorem dX12_holds_84 : decode cX12_holds 84 = .ok (.iconst 1, 1) := by decide +kernel
theorem dX12_holds_85 : decode cX12_holds 85 = .ok (.iload_n 2, 1) := by decide +kernel
theorem dX12_holds_86 : decode cX12_holds 86 = .ok (.ishl, 1) := by decide +kernel
theorem dX12_holds_87 : decode cX12_holds 87 = .ok (.iconst (-1), 1) := by decide +kernel
theorem dX12_holds_88 : decode cX12_holds 88 = .ok (.ixor, 1) := by decide +kernel
theorem dX12_holds_89 : decode cX12_holds 89 = .ok (.iand, 1) := by decide +kernel
theorem dX12_holds_90 : decode cX12_holds 90 = .ok (.iload 4, 2) := by decide +kernel
theorem dX12_holds_92 : decode cX12_holds 92 = .ok (.iconst 1, 1) := by decide +kernel
theorem dX12_holds_93 : decode cX12_holds 93 = .ok (.if_icmp .ne 9, 3) := by decide +kernel
theorem dX12_holds_96 : decode cX12_holds 96 = .ok (.iconst 1, 1) := by decide +kernel
theorem dX12_holds_97 : decode cX12_holds 97 = .ok (.iload_n 2, 1) := by decide +kernel
theorem dX12_holds_98 : decode cX12_holds 98 = .ok (.ishl, 1) := by decide +kernel
theorem dX12_holds_99 : decode cX12_holds 99 = .ok (.goto 4, 3) := by decide +kernel
theorem dX12_holds_102 : decode cX12_holds 102 = .ok (.iconst 0, 1) := by decide +kernel
theorem dX12_holds_103 : decode cX12_holds 103 = .ok (.ior, 1) := by decide +kernel
theorem dX12_holds_104 : decode cX12_holds 104 = .ok (.iastore, 1) := by decide +kernel
theorem dX12_holds_105 : decode cX12_holds 105 = .ok (.iload_n 3, 1) := by decide +kernel
theorem dX12_holds_106 : decode cX12_holds 106 = .ok (.aload_n 0, 1) := by decide +kernel
theorem dX12_holds_107 : decode cX12_holds 107 = .ok (.iload_n 1, 1) := by decide +kernel
theorem dX12_holds_108 : decode cX12_holds 108 = .ok (.invokevirtual 145, 3) := by decide +kernel
theorem dX12_holds_111 : decode cX12_holds 111 = .ok (.ifCond .eq 10, 3) := by decide +kernel
theorem dX12_holds_114 : decode cX12_holds 114 = .ok (.iconst 1, 1) := by decide +kernel
theorem dX12_holds_115 : decode cX12_holds 115 = .ok (.iload 4, 2) := by decide +kernel
theorem dX12_holds_117 : decode cX12_holds 117 = .ok (.ishl, 1) := by decide +kernel
theorem dX12_holds_118 : decode cX12_holds 118 = .ok (.goto 4, 3) := by decide +kernel
theorem dX12_holds_121 : decode cX12_holds 121 = .ok (.iconst 0, 1) := by decide +kernel
theorem dX12_holds_122 : decode cX12_holds 122 = .ok (.ior, 1) := by decide +kernel
theorem dX12_holds_123 : decode cX12_holds 123 = .ok (.istore_n 3, 1) := by decide +kernel
theorem dX12_holds_124 : decode cX12_holds 124 = .ok (.iinc 4 1, 3) := by decide +kernel
theorem dX12_holds_127 : decode cX12_holds 127 = .ok (.goto (-91), 3) := by decide +kernel
theorem dX12_holds_130 : decode cX12_holds 130 = .ok (.iload_n 3, 1) := by decide +kernel
theorem dX12_holds_131 : decode cX12_holds 131 = .ok (.ireturn, 1) := by decide +kernel
theorem dX12_tryNext_0 : decode cX12_tryNext 0 = .ok (.aload_n 0, 1) := by decide +kernel
theorem dX12_tryNext_1 : decode cX12_tryNext 1 = .ok (.iload_n 1, 1) := by decide +kernel
theorem dX12_tryNext_2 : decode cX12_tryNext 2 = .ok (.invokevirtual 123, 3) := by decide +kernel
theorem dX12_tryNext_5 : decode cX12_tryNext 5 = .ok (.ifCond .ne 10, 3) := by decide +kernel
theorem dX12_tryNext_8 : decode cX12_tryNext 8 = .ok (.aload_n 0, 1) := by decide +kernel
theorem dX12_tryNext_9 : decode cX12_tryNext 9 = .ok (.bipush (-2), 2) := by decide +kernel
theorem dX12_tryNext_11 : decode cX12_tryNext 11 = .ok (.invokevirtual 61, 3) := by decide +kernel
theorem dX12_tryNext_14 : decode cX12_tryNext 14 = .ok (.ireturn, 1) := by decide +kernel
theorem dX12_tryNext_15 : decode cX12_tryNext 15 = .ok (.aload_n 0, 1) := by decide +kernel
theorem dX12_tryNext_16 : decode cX12_tryNext 16 = .ok (.iload_n 1, 1) := by decide +kernel
theorem dX12_tryNext_17 : decode cX12_tryNext 17 = .ok (.invokevirtual 148, 3) := by decide +kernel
theorem dX12_tryNext_20 : decode cX12_tryNext 20 = .ok (.istore_n 2, 1) := by decide +kernel
theorem dX12_tryNext_21 : decode cX12_tryNext 21 = .ok (.iconst (-1), 1) := by decide +kernel
theorem dX12_tryNext_22 : decode cX12_tryNext 22 = .ok (.istore_n 3, 1) := by decide +kernel
theorem dX12_tryNext_23 : decode cX12_tryNext 23 = .ok (.ldc 153, 2) := by decide +kernel
theorem dX12_tryNext_25 : decode cX12_tryNext 25 = .ok (.istore 4, 2) := by decide +kernel
theorem dX12_tryNext_27 : decode cX12_tryNext 27 = .ok (.iconst 1, 1) := by decide +kernel
theorem dX12_tryNext_28 : decode cX12_tryNext 28 = .ok (.istore 5, 2) := by decide +kernel
theorem dX12_tryNext_30 : decode cX12_tryNext 30 = .ok (.iload 5, 2) := by decide +kernel
theorem dX12_tryNext_32 : decode cX12_tryNext 32 = .ok (.sipush 255, 3) := by decide +kernel
theorem dX12_tryNext_35 : decode cX12_tryNext 35 = .ok (.if_icmp .gt 124, 3) := by decide +kernel
theorem dX12_tryNext_38 : decode cX12_tryNext 38 = .ok (.iload_n 2, 1) := by decide +kernel
theorem dX12_tryNext_39 : decode cX12_tryNext 39 = .ok (.ifCond .le 120, 3) := by decide +kernel
theorem dX12_tryNext_42 : decode cX12_tryNext 42 = .ok (.iconst 0, 1) := by decide +kernel
theorem dX12_tryNext_43 : decode cX12_tryNext 43 = .ok (.istore 6, 2) := by decide +kernel
theorem dX12_tryNext_45 : decode cX12_tryNext 45 = .ok (.iconst 0, 1) := by decide +kernel
theorem dX12_tryNext_46 : decode cX12_tryNext 46 = .ok (.istore 7, 2) := by decide +kernel
theorem dX12_tryNext_48 : decode cX12_tryNext 48 = .ok (.iload 7, 2) := by decide +kernel
theorem dX12_tryNext_50 : decode cX12_tryNext 50 = .ok (.bipush 6, 2) := by decide +kernel
theorem dX12_tryNext_52 : decode cX12_tryNext 52 = .ok (.if_icmp .ge 46, 3) := by decide +kernel
theorem dX12_tryNext_55 : decode cX12_tryNext 55 = .ok (.aload_n 0, 1) := by decide +kernel
theorem dX12_tryNext_56 : decode cX12_tryNext 56 = .ok (.getfield 27, 3) := by decide +kernel
theorem dX12_tryNext_59 : decode cX12_tryNext 59 = .ok (.iload_n 1, 1) := by decide +kernel
theorem dX12_tryNext_60 : decode cX12_tryNext 60 = .ok (.iload 7, 2) := by decide +kernel
theorem dX12_tryNext_62 : decode cX12_tryNext 62 = .ok (.iastore, 1) := by decide +kernel
theorem dX12_tryNext_63 : decode cX12_tryNext 63 = .ok (.iload 6, 2) := by decide +kernel
theorem dX12_tryNext_65 : decode cX12_tryNext 65 = .ok (.iload_n 2, 1) := by decide +kernel
theorem dX12_tryNext_66 : decode cX12_tryNext 66 = .ok (.iload 7, 2) := by decide +kernel
theorem dX12_tryNext_68 : decode cX12_tryNext 68 = .ok (.invokestatic 97, 3) := by decide +kernel
theorem dX12_tryNext_71 : decode cX12_tryNext 71 = .ok (.ifCond .eq 17, 3) := by decide +kernel
theorem dX12_tryNext_74 : decode cX12_tryNext 74 = .ok (.aload_n 0, 1) := by decide +kernel
theorem dX12_tryNext_75 : decode cX12_tryNext 75 = .ok (.iload_n 1, 1) := by decide +kernel
theorem dX12_tryNext_76 : decode cX12_tryNext 76 = .ok (.iload 5, 2) := by decide +kernel
theorem dX12_tryNext_78 : decode cX12_tryNext 78 = .ok (.invokevirtual 101, 3) := by decide +kernel
theorem dX12_tryNext_81 : decode cX12_tryNext 81 = .ok (.ifCond .eq 7, 3) := by decide +kernel
theorem dX12_tryNext_84 : decode cX12_tryNext 84 = .ok (.iconst 1, 1) := by decide +kernel
theorem dX12_tryNext_85 : decode cX12_tryNext 85 = .ok (.goto 4, 3) := by decide +kernel
theorem dX12_tryNext_88 : decode cX12_tryNext 88 = .ok (.iconst 0, 1) := by decide +kernel
theorem dX12_tryNext_89 : decode cX12_tryNext 89 = .ok (.iadd, 1) := by decide +kernel
theorem dX12_tryNext_90 : decode cX12_tryNext 90 = .ok (.istore 6, 2) := by decide +kernel
theorem dX12_tryNext_92 : decode cX12_tryNext 92 = .ok (.iinc 7 1, 3) := by decide +kernel
theorem dX12_tryNext_95 : decode cX12_tryNext 95 = .ok (.goto (-47), 3) := by decide +kernel
theorem dX12_tryNext_98 : decode cX12_tryNext 98 = .ok (.iconst 2, 1) := by decide +kernel
theorem dX12_tryNext_99 : decode cX12_tryNext 99 = .ok (.iload 6, 2) := by decide +kernel
theorem dX12_tryNext_101 : decode cX12_tryNext 101 = .ok (.imul, 1) := by decide +kernel
theorem dX12_tryNext_102 : decode cX12_tryNext 102 = .ok (.iload_n 2, 1) := by decide +kernel
theorem dX12_tryNext_103 : decode cX12_tryNext 103 = .ok (.invokestatic 91, 3) := by decide +kernel
theorem dX12_tryNext_106 : decode cX12_tryNext 106 = .ok (.if_icmp .le 8, 3) := by decide +kernel
theorem dX12_tryNext_109 : decode cX12_tryNext 109 = .ok (.iload 6, 2) := by decide +kernel
theorem dX12_tryNext_111 : decode cX12_tryNext 111 = .ok (.goto 10, 3) := by decide +kernel
theorem dX12_tryNext_114 : decode cX12_tryNext 114 = .ok (.iload_n 2, 1) := by decide +kernel
theorem dX12_tryNext_115 : decode cX12_tryNext 115 = .ok (.invokestatic 91, 3) := by decide +kernel
theorem dX12_tryNext_118 : decode cX12_tryNext 118 = .ok (.iload 6, 2) := by decide +kernel
theorem dX12_tryNext_120 : decode cX12_tryNext 120 = .ok (.isub, 1) := by decide +kernel
theorem dX12_tryNext_121 : decode cX12_tryNext 121 = .ok (.istore 7, 2) := by decide +kernel
theorem dX12_tryNext_123 : decode cX12_tryNext 123 = .ok (.iload 7, 2) := by decide +kernel
theorem dX12_tryNext_125 : decode cX12_tryNext 125 = .ok (.iload 4, 2) := by decide +kernel
theorem dX12_tryNext_127 : decode cX12_tryNext 127 = .ok (.if_icmp .ge 8, 3) := by decide +kernel
theorem dX12_tryNext_130 : decode cX12_tryNext 130 = .ok (.iload 5, 2) := by decide +kernel
theorem dX12_tryNext_132 : decode cX12_tryNext 132 = .ok (.goto 4, 3) := by decide +kernel
theorem dX12_tryNext_135 : decode cX12_tryNext 135 = .ok (.iload_n 3, 1) := by decide +kernel
theorem dX12_tryNext_136 : decode cX12_tryNext 136 = .ok (.istore_n 3, 1) := by decide +kernel
theorem dX12_tryNext_137 : decode cX12_tryNext 137 = .ok (.iload 7, 2) := by decide +kernel
theorem dX12_tryNext_139 : decode cX12_tryNext 139 = .ok (.iload 4, 2) := by decide +kernel
theorem dX12_tryNext_141 : decode cX12_tryNext 141 = .ok (.if_icmp .ge 8, 3) := by decide +kernel
theorem dX12_tryNext_144 : decode cX12_tryNext 144 = .ok (.iload 7, 2) := by decide +kernel
theorem dX12_tryNext_146 : decode cX12_tryNext 146 = .ok (.goto 5, 3) := by decide +kernel
theorem dX12_tryNext_149 : decode cX12_tryNext 149 = .ok (.iload 4, 2) := by decide +kernel
theorem dX12_tryNext_151 : decode cX12_tryNext 151 = .ok (.istore 4, 2) := by decide +kernel
theorem dX12_tryNext_153 : decode cX12_tryNext 153 = .ok (.iinc 5 1, 3) := by decide +kernel
theorem dX12_tryNext_156 : decode cX12_tryNext 156 = .ok (.goto (-126), 3) := by decide +kernel
theorem dX12_tryNext_159 : decode cX12_tryNext 159 = .ok (.iload_n 3, 1) := by decide +kernel
theorem dX12_tryNext_160 : decode cX12_tryNext 160 = .ok (.ireturn, 1) := by decide +kernel
theorem dX12_fraction_0 : decode cX12_fraction 0 = .ok (.lload_n 1, 1) := by decide +kernel
theorem dX12_fraction_1 : decode cX12_fraction 1 = .ok (.lstore 5, 2) := by decide +kernel
theorem dX12_fraction_3 : decode cX12_fraction 3 = .ok (.lload_n 3, 1) := by decide +kernel
theorem dX12_fraction_4 : decode cX12_fraction 4 = .ok (.lstore 7, 2) := by decide +kernel
theorem dX12_fraction_6 : decode cX12_fraction 6 = .ok (.lload 7, 2) := by decide +kernel
theorem dX12_fraction_8 : decode cX12_fraction 8 = .ok (.lconst 0, 1) := by decide +kernel
theorem dX12_fraction_9 : decode cX12_fraction 9 = .ok (.lcmp, 1) := by decide +kernel
theorem dX12_fraction_10 : decode cX12_fraction 10 = .ok (.ifCond .eq 21, 3) := by decide +kernel
theorem dX12_fraction_13 : decode cX12_fraction 13 = .ok (.lload 5, 2) := by decide +kernel
theorem dX12_fraction_15 : decode cX12_fraction 15 = .ok (.lload 7, 2) := by decide +kernel
theorem dX12_fraction_17 : decode cX12_fraction 17 = .ok (.lrem, 1) := by decide +kernel
theorem dX12_fraction_18 : decode cX12_fraction 18 = .ok (.lstore 9, 2) := by decide +kernel
theorem dX12_fraction_20 : decode cX12_fraction 20 = .ok (.lload 7, 2) := by decide +kernel
theorem dX12_fraction_22 : decode cX12_fraction 22 = .ok (.lstore 5, 2) := by decide +kernel
theorem dX12_fraction_24 : decode cX12_fraction 24 = .ok (.lload 9, 2) := by decide +kernel
theorem dX12_fraction_26 : decode cX12_fraction 26 = .ok (.lstore 7, 2) := by decide +kernel
theorem dX12_fraction_28 : decode cX12_fraction 28 = .ok (.goto (-22), 3) := by decide +kernel
theorem dX12_fraction_31 : decode cX12_fraction 31 = .ok (.aload_n 0, 1) := by decide +kernel
theorem dX12_fraction_32 : decode cX12_fraction 32 = .ok (.lload_n 1, 1) := by decide +kernel
theorem dX12_fraction_33 : decode cX12_fraction 33 = .ok (.lload 5, 2) := by decide +kernel
theorem dX12_fraction_35 : decode cX12_fraction 35 = .ok (.ldiv, 1) := by decide +kernel
theorem dX12_fraction_36 : decode cX12_fraction 36 = .ok (.putfield 154, 3) := by decide +kernel
theorem dX12_fraction_39 : decode cX12_fraction 39 = .ok (.aload_n 0, 1) := by decide +kernel
theorem dX12_fraction_40 : decode cX12_fraction 40 = .ok (.lload_n 3, 1) := by decide +kernel
theorem dX12_fraction_41 : decode cX12_fraction 41 = .ok (.lload 5, 2) := by decide +kernel
theorem dX12_fraction_43 : decode cX12_fraction 43 = .ok (.ldiv, 1) := by decide +kernel
theorem dX12_fraction_44 : decode cX12_fraction 44 = .ok (.putfield 23, 3) := by decide +kernel
theorem dX12_fraction_47 : decode cX12_fraction 47 = .ok (.return_, 1) := by decide +kernel
theorem dX12_away_0 : decode cX12_away 0 = .ok (.iload_n 1, 1) := by decide +kernel
theorem dX12_away_1 : decode cX12_away 1 = .ok (.invokestatic 67, 3) := by decide +kernel
theorem dX12_away_4 : decode cX12_away 4 = .ok (.ifCond .eq 15, 3) := by decide +kernel
theorem dX12_away_7 : decode cX12_away 7 = .ok (.iload_n 2, 1) := by decide +kernel
theorem dX12_away_8 : decode cX12_away 8 = .ok (.i2l, 1) := by decide +kernel
theorem dX12_away_9 : decode cX12_away 9 = .ok (.lconst 0, 1) := by decide +kernel
theorem dX12_away_10 : decode cX12_away 10 = .ok (.ldc2_w 157, 3) := by decide +kernel
theorem dX12_away_13 : decode cX12_away 13 = .ok (.invokestatic 53, 3) := by decide +kernel
theorem dX12_away_16 : decode cX12_away 16 = .ok (.ifCond .ne 10, 3) := by decide +kernel
theorem dX12_away_19 : decode cX12_away 19 = .ok (.aload_n 0, 1) := by decide +kernel
theorem dX12_away_20 : decode cX12_away 20 = .ok (.bipush (-2), 2) := by decide +kernel
theorem dX12_away_22 : decode cX12_away 22 = .ok (.invokevirtual 61, 3) := by decide +kernel
theorem dX12_away_25 : decode cX12_away 25 = .ok (.ireturn, 1) := by decide +kernel
theorem dX12_away_26 : decode cX12_away 26 = .ok (.lconst 1, 1) := by decide +kernel
theorem dX12_away_27 : decode cX12_away 27 = .ok (.lstore_n 3, 1) := by decide +kernel
theorem dX12_away_28 : decode cX12_away 28 = .ok (.lconst 1, 1) := by decide +kernel
theorem dX12_away_29 : decode cX12_away 29 = .ok (.lstore 5, 2) := by decide +kernel
theorem dX12_away_31 : decode cX12_away 31 = .ok (.aload_n 0, 1) := by decide +kernel
theorem dX12_away_32 : decode cX12_away 32 = .ok (.invokevirtual 110, 3) := by decide +kernel
theorem dX12_away_35 : decode cX12_away 35 = .ok (.iconst 0, 1) := by decide +kernel
theorem dX12_away_36 : decode cX12_away 36 = .ok (.istore 7, 2) := by decide +kernel
theorem dX12_away_38 : decode cX12_away 38 = .ok (.iload 7, 2) := by decide +kernel
theorem dX12_away_40 : decode cX12_away 40 = .ok (.aload_n 0, 1) := by decide +kernel
theorem dX12_away_41 : decode cX12_away 41 = .ok (.iload_n 1, 1) := by decide +kernel
theorem dX12_away_42 : decode cX12_away 42 = .ok (.invokevirtual 116, 3) := by decide +kernel
theorem dX12_away_45 : decode cX12_away 45 = .ok (.invokestatic 91, 3) := by decide +kernel
theorem dX12_away_48 : decode cX12_away 48 = .ok (.if_icmp .ge 22, 3) := by decide +kernel
theorem dX12_away_51 : decode cX12_away 51 = .ok (.lload_n 3, 1) := by decide +kernel
theorem dX12_away_52 : decode cX12_away 52 = .ok (.iload_n 2, 1) := by decide +kernel
theorem dX12_away_53 : decode cX12_away 53 = .ok (.i2l, 1) := by decide +kernel
theorem dX12_away_54 : decode cX12_away 54 = .ok (.lmul, 1) := by decide +kernel
theorem dX12_away_55 : decode cX12_away 55 = .ok (.lstore_n 3, 1) := by decide +kernel
theorem dX12_away_56 : decode cX12_away 56 = .ok (.lload 5, 2) := by decide +kernel
theorem dX12_away_58 : decode cX12_away 58 = .ok (.ldc2_w 157, 3) := by decide +kernel
theorem dX12_away_61 : decode cX12_away 61 = .ok (.lmul, 1) := by decide +kernel
theorem dX12_away_62 : decode cX12_away 62 = .ok (.lstore 5, 2) := by decide +kernel
theorem dX12_away_64 : decode cX12_away 64 = .ok (.iinc 7 1, 3) := by decide +kernel
theorem dX12_away_67 : decode cX12_away 67 = .ok (.goto (-29), 3) := by decide +kernel
theorem dX12_away_70 : decode cX12_away 70 = .ok (.aload_n 0, 1) := by decide +kernel
theorem dX12_away_71 : decode cX12_away 71 = .ok (.lload_n 3, 1) := by decide +kernel
theorem dX12_away_72 : decode cX12_away 72 = .ok (.lload 5, 2) := by decide +kernel
theorem dX12_away_74 : decode cX12_away 74 = .ok (.invokevirtual 159, 3) := by decide +kernel
theorem dX12_away_77 : decode cX12_away 77 = .ok (.iconst 1, 1) := by decide +kernel
theorem dX12_away_78 : decode cX12_away 78 = .ok (.ireturn, 1) := by decide +kernel
theorem dX12_diets_0 : decode cX12_diets 0 = .ok (.iload_n 1, 1) := by decide +kernel
theorem dX12_diets_1 : decode cX12_diets 1 = .ok (.i2l, 1) := by decide +kernel
theorem dX12_diets_2 : decode cX12_diets 2 = .ok (.lconst 0, 1) := by decide +kernel
theorem dX12_diets_3 : decode cX12_diets 3 = .ok (.ldc2_w 163, 3) := by decide +kernel
theorem dX12_diets_6 : decode cX12_diets 6 = .ok (.invokestatic 53, 3) := by decide +kernel
theorem dX12_diets_9 : decode cX12_diets 9 = .ok (.ifCond .eq 15, 3) := by decide +kernel
theorem dX12_diets_12 : decode cX12_diets 12 = .ok (.iload_n 2, 1) := by decide +kernel
theorem dX12_diets_13 : decode cX12_diets 13 = .ok (.i2l, 1) := by decide +kernel
theorem dX12_diets_14 : decode cX12_diets 14 = .ok (.lconst 0, 1) := by decide +kernel
theorem dX12_diets_15 : decode cX12_diets 15 = .ok (.ldc2_w 165, 3) := by decide +kernel
theorem dX12_diets_18 : decode cX12_diets 18 = .ok (.invokestatic 53, 3) := by decide +kernel
theorem dX12_diets_21 : decode cX12_diets 21 = .ok (.ifCond .ne 10, 3) := by decide +kernel
theorem dX12_diets_24 : decode cX12_diets 24 = .ok (.aload_n 0, 1) := by decide +kernel
theorem dX12_diets_25 : decode cX12_diets 25 = .ok (.bipush (-2), 2) := by decide +kernel
theorem dX12_diets_27 : decode cX12_diets 27 = .ok (.invokevirtual 61, 3) := by decide +kernel
theorem dX12_diets_30 : decode cX12_diets 30 = .ok (.ireturn, 1) := by decide +kernel
theorem dX12_diets_31 : decode cX12_diets 31 = .ok (.iload_n 1, 1) := by decide +kernel
theorem dX12_diets_32 : decode cX12_diets 32 = .ok (.i2l, 1) := by decide +kernel
theorem dX12_diets_33 : decode cX12_diets 33 = .ok (.lstore_n 3, 1) := by decide +kernel
theorem dX12_diets_34 : decode cX12_diets 34 = .ok (.aload_n 0, 1) := by decide +kernel
theorem dX12_diets_35 : decode cX12_diets 35 = .ok (.getfield 7, 3) := by decide +kernel
theorem dX12_diets_38 : decode cX12_diets 38 = .ok (.iconst 1, 1) := by decide +kernel
theorem dX12_diets_39 : decode cX12_diets 39 = .ok (.iaload, 1) := by decide +kernel
theorem dX12_diets_40 : decode cX12_diets 40 = .ok (.istore 5, 2) := by decide +kernel
theorem dX12_diets_42 : decode cX12_diets 42 = .ok (.aload_n 0, 1) := by decide +kernel
theorem dX12_diets_43 : decode cX12_diets 43 = .ok (.getfield 7, 3) := by decide +kernel
theorem dX12_diets_46 : decode cX12_diets 46 = .ok (.iconst 2, 1) := by decide +kernel
theorem dX12_diets_47 : decode cX12_diets 47 = .ok (.iaload, 1) := by decide +kernel
theorem dX12_diets_48 : decode cX12_diets 48 = .ok (.istore 6, 2) := by decide +kernel
theorem dX12_diets_50 : decode cX12_diets 50 = .ok (.aload_n 0, 1) := by decide +kernel
theorem dX12_diets_51 : decode cX12_diets 51 = .ok (.invokevirtual 110, 3) := by decide +kernel
theorem dX12_diets_54 : decode cX12_diets 54 = .ok (.iconst 0, 1) := by decide +kernel
theorem dX12_diets_55 : decode cX12_diets 55 = .ok (.istore 7, 2) := by decide +kernel
theorem dX12_diets_57 : decode cX12_diets 57 = .ok (.iload 7, 2) := by decide +kernel
theorem dX12_diets_59 : decode cX12_diets 59 = .ok (.iload_n 2, 1) := by decide +kernel
theorem dX12_diets_60 : decode cX12_diets 60 = .ok (.if_icmp .ge 98, 3) := by decide +kernel
theorem dX12_diets_63 : decode cX12_diets 63 = .ok (.lload_n 3, 1) := by decide +kernel
theorem dX12_diets_64 : decode cX12_diets 64 = .ok (.ldc2_w 167, 3) := by decide +kernel
theorem dX12_diets_67 : decode cX12_diets 67 = .ok (.lmul, 1) := by decide +kernel
theorem dX12_diets_68 : decode cX12_diets 68 = .ok (.ldc2_w 169, 3) := by decide +kernel
theorem dX12_diets_71 : decode cX12_diets 71 = .ok (.ladd, 1) := by decide +kernel
theorem dX12_diets_72 : decode cX12_diets 72 = .ok (.ldc2_w 171, 3) := by decide +kernel
theorem dX12_diets_75 : decode cX12_diets 75 = .ok (.lrem, 1) := by decide +kernel
theorem dX12_diets_76 : decode cX12_diets 76 = .ok (.lstore_n 3, 1) := by decide +kernel
theorem dX12_diets_77 : decode cX12_diets 77 = .ok (.lload_n 3, 1) := by decide +kernel
theorem dX12_diets_78 : decode cX12_diets 78 = .ok (.ldc2_w 173, 3) := by decide +kernel
theorem dX12_diets_81 : decode cX12_diets 81 = .ok (.ldiv, 1) := by decide +kernel
theorem dX12_diets_82 : decode cX12_diets 82 = .ok (.ldc2_w 175, 3) := by decide +kernel
theorem dX12_diets_85 : decode cX12_diets 85 = .ok (.lrem, 1) := by decide +kernel
theorem dX12_diets_86 : decode cX12_diets 86 = .ok (.l2i, 1) := by decide +kernel
theorem dX12_diets_87 : decode cX12_diets 87 = .ok (.iload 5, 2) := by decide +kernel
theorem dX12_diets_89 : decode cX12_diets 89 = .ok (.iconst (-1), 1) := by decide +kernel
theorem dX12_diets_90 : decode cX12_diets 90 = .ok (.ixor, 1) := by decide +kernel
theorem dX12_diets_91 : decode cX12_diets 91 = .ok (.iand, 1) := by decide +kernel
theorem dX12_diets_92 : decode cX12_diets 92 = .ok (.iload 6, 2) := by decide +kernel
theorem dX12_diets_94 : decode cX12_diets 94 = .ok (.iconst (-1), 1) := by decide +kernel
theorem dX12_diets_95 : decode cX12_diets 95 = .ok (.ixor, 1) := by decide +kernel
theorem dX12_diets_96 : decode cX12_diets 96 = .ok (.iand, 1) := by decide +kernel
theorem dX12_diets_97 : decode cX12_diets 97 = .ok (.istore 8, 2) := by decide +kernel
theorem dX12_diets_99 : decode cX12_diets 99 = .ok (.aload_n 0, 1) := by decide +kernel
theorem dX12_diets_100 : decode cX12_diets 100 = .ok (.iload 8, 2) := by decide +kernel
theorem dX12_diets_102 : decode cX12_diets 102 = .ok (.invokevirtual 116, 3) := by decide +kernel
theorem dX12_diets_105 : decode cX12_diets 105 = .ok (.ifCond .eq 7, 3) := by decide +kernel
theorem dX12_diets_108 : decode cX12_diets 108 = .ok (.iconst 1, 1) := by decide +kernel
theorem dX12_diets_109 : decode cX12_diets 109 = .ok (.goto 4, 3) := by decide +kernel
theorem dX12_diets_112 : decode cX12_diets 112 = .ok (.iconst 0, 1) := by decide +kernel
theorem dX12_diets_113 : decode cX12_diets 113 = .ok (.istore 9, 2) := by decide +kernel
theorem dX12_diets_115 : decode cX12_diets 115 = .ok (.iload 6, 2) := by decide +kernel
theorem dX12_diets_117 : decode cX12_diets 117 = .ok (.iload 9, 2) := by decide +kernel
theorem dX12_diets_119 : decode cX12_diets 119 = .ok (.ifCond .eq 7, 3) := by decide +kernel
theorem dX12_diets_122 : decode cX12_diets 122 = .ok (.iconst 0, 1) := by decide +kernel
theorem dX12_diets_123 : decode cX12_diets 123 = .ok (.goto 8, 3) := by decide +kernel
theorem dX12_diets_126 : decode cX12_diets 126 = .ok (.iload 5, 2) := by decide +kernel
theorem dX12_diets_128 : decode cX12_diets 128 = .ok (.iload 8, 2) := by decide +kernel
theorem dX12_diets_130 : decode cX12_diets 130 = .ok (.ior, 1) := by decide +kernel
theorem dX12_diets_131 : decode cX12_diets 131 = .ok (.ior, 1) := by decide +kernel
theorem dX12_diets_132 : decode cX12_diets 132 = .ok (.istore 6, 2) := by decide +kernel
theorem dX12_diets_134 : decode cX12_diets 134 = .ok (.iconst 0, 1) := by decide +kernel
theorem dX12_diets_135 : decode cX12_diets 135 = .ok (.istore 5, 2) := by decide +kernel
theorem dX12_diets_137 : decode cX12_diets 137 = .ok (.aload_n 0, 1) := by decide +kernel
theorem dX12_diets_138 : decode cX12_diets 138 = .ok (.iconst 0, 1) := by decide +kernel
theorem dX12_diets_139 : decode cX12_diets 139 = .ok (.putfield 84, 3) := by decide +kernel
theorem dX12_diets_142 : decode cX12_diets 142 = .ok (.aload_n 0, 1) := by decide +kernel
theorem dX12_diets_143 : decode cX12_diets 143 = .ok (.dup, 1) := by decide +kernel
theorem dX12_diets_144 : decode cX12_diets 144 = .ok (.getfield 88, 3) := by decide +kernel
theorem dX12_diets_147 : decode cX12_diets 147 = .ok (.iconst 1, 1) := by decide +kernel
theorem dX12_diets_148 : decode cX12_diets 148 = .ok (.iadd, 1) := by decide +kernel
theorem dX12_diets_149 : decode cX12_diets 149 = .ok (.putfield 88, 3) := by decide +kernel
theorem dX12_diets_152 : decode cX12_diets 152 = .ok (.iinc 7 1, 3) := by decide +kernel
theorem dX12_diets_155 : decode cX12_diets 155 = .ok (.goto (-98), 3) := by decide +kernel
theorem dX12_diets_158 : decode cX12_diets 158 = .ok (.iload 6, 2) := by decide +kernel
theorem dX12_diets_160 : decode cX12_diets 160 = .ok (.invokestatic 91, 3) := by decide +kernel
theorem dX12_diets_163 : decode cX12_diets 163 = .ok (.ireturn, 1) := by decide +kernel
theorem dX12_type_0 : decode cX12_type 0 = .ok (.iload_n 1, 1) := by decide +kernel
theorem dX12_type_1 : decode cX12_type 1 = .ok (.i2l, 1) := by decide +kernel
theorem dX12_type_2 : decode cX12_type 2 = .ok (.lconst 0, 1) := by decide +kernel
theorem dX12_type_3 : decode cX12_type 3 = .ok (.ldc2_w 177, 3) := by decide +kernel
theorem dX12_type_6 : decode cX12_type 6 = .ok (.invokestatic 53, 3) := by decide +kernel
theorem dX12_type_9 : decode cX12_type 9 = .ok (.ifCond .ne 10, 3) := by decide +kernel
theorem dX12_type_12 : decode cX12_type 12 = .ok (.aload_n 0, 1) := by decide +kernel
theorem dX12_type_13 : decode cX12_type 13 = .ok (.bipush (-2), 2) := by decide +kernel
theorem dX12_type_15 : decode cX12_type 15 = .ok (.invokevirtual 61, 3) := by decide +kernel
theorem dX12_type_18 : decode cX12_type 18 = .ok (.ireturn, 1) := by decide +kernel
theorem dX12_type_19 : decode cX12_type 19 = .ok (.aload_n 0, 1) := by decide +kernel
theorem dX12_type_20 : decode cX12_type 20 = .ok (.getfield 179, 3) := by decide +kernel
theorem dX12_type_23 : decode cX12_type 23 = .ok (.sipush 150, 3) := by decide +kernel
theorem dX12_type_26 : decode cX12_type 26 = .ok (.if_icmp .ne 8, 3) := by decide +kernel
theorem dX12_type_29 : decode cX12_type 29 = .ok (.aload_n 0, 1) := by decide +kernel
theorem dX12_type_30 : decode cX12_type 30 = .ok (.invokevirtual 73, 3) := by decide +kernel
theorem dX12_type_33 : decode cX12_type 33 = .ok (.ireturn, 1) := by decide +kernel
theorem dX12_type_34 : decode cX12_type 34 = .ok (.aload_n 0, 1) := by decide +kernel
theorem dX12_type_35 : decode cX12_type 35 = .ok (.getfield 36, 3) := by decide +kernel
theorem dX12_type_38 : decode cX12_type 38 = .ok (.aload_n 0, 1) := by decide +kernel
theorem dX12_type_39 : decode cX12_type 39 = .ok (.getfield 179, 3) := by decide +kernel
theorem dX12_type_42 : decode cX12_type 42 = .ok (.iload_n 1, 1) := by decide +kernel
theorem dX12_type_43 : decode cX12_type 43 = .ok (.iastore, 1) := by decide +kernel
theorem dX12_type_44 : decode cX12_type 44 = .ok (.aload_n 0, 1) := by decide +kernel
theorem dX12_type_45 : decode cX12_type 45 = .ok (.dup, 1) := by decide +kernel
theorem dX12_type_46 : decode cX12_type 46 = .ok (.getfield 179, 3) := by decide +kernel
theorem dX12_type_49 : decode cX12_type 49 = .ok (.iconst 1, 1) := by decide +kernel
theorem dX12_type_50 : decode cX12_type 50 = .ok (.iadd, 1) := by decide +kernel
theorem dX12_type_51 : decode cX12_type 51 = .ok (.putfield 179, 3) := by decide +kernel
theorem dX12_type_54 : decode cX12_type 54 = .ok (.aload_n 0, 1) := by decide +kernel
theorem dX12_type_55 : decode cX12_type 55 = .ok (.getfield 179, 3) := by decide +kernel
theorem dX12_type_58 : decode cX12_type 58 = .ok (.ireturn, 1) := by decide +kernel
theorem dX12_clear_0 : decode cX12_clear 0 = .ok (.aload_n 0, 1) := by decide +kernel
theorem dX12_clear_1 : decode cX12_clear 1 = .ok (.getfield 179, 3) := by decide +kernel
theorem dX12_clear_4 : decode cX12_clear 4 = .ok (.istore_n 1, 1) := by decide +kernel
theorem dX12_clear_5 : decode cX12_clear 5 = .ok (.aload_n 0, 1) := by decide +kernel
theorem dX12_clear_6 : decode cX12_clear 6 = .ok (.iconst 0, 1) := by decide +kernel
theorem dX12_clear_7 : decode cX12_clear 7 = .ok (.putfield 179, 3) := by decide +kernel
theorem dX12_clear_10 : decode cX12_clear 10 = .ok (.iload_n 1, 1) := by decide +kernel
theorem dX12_clear_11 : decode cX12_clear 11 = .ok (.ireturn, 1) := by decide +kernel
theorem dX12_isSmall_0 : decode cX12_isSmall 0 = .ok (.iload_n 0, 1) := by decide +kernel
theorem dX12_isSmall_1 : decode cX12_isSmall 1 = .ok (.i2l, 1) := by decide +kernel
theorem dX12_isSmall_2 : decode cX12_isSmall 2 = .ok (.ldc2_w 182, 3) := by decide +kernel
theorem dX12_isSmall_5 : decode cX12_isSmall 5 = .ok (.ldc2_w 184, 3) := by decide +kernel
theorem dX12_isSmall_8 : decode cX12_isSmall 8 = .ok (.invokestatic 53, 3) := by decide +kernel
theorem dX12_isSmall_11 : decode cX12_isSmall 11 = .ok (.ireturn, 1) := by decide +kernel
theorem dX12_isFigure_0 : decode cX12_isFigure 0 = .ok (.iload_n 0, 1) := by decide +kernel
theorem dX12_isFigure_1 : decode cX12_isFigure 1 = .ok (.i2l, 1) := by decide +kernel
theorem dX12_isFigure_2 : decode cX12_isFigure 2 = .ok (.ldc2_w 186, 3) := by decide +kernel
theorem dX12_isFigure_5 : decode cX12_isFigure 5 = .ok (.ldc2_w 188, 3) := by decide +kernel
theorem dX12_isFigure_8 : decode cX12_isFigure 8 = .ok (.invokestatic 53, 3) := by decide +kernel
theorem dX12_isFigure_11 : decode cX12_isFigure 11 = .ok (.ireturn, 1) := by decide +kernel
theorem dX12_lookAt_0 : decode cX12_lookAt 0 = .ok (.aload_n 0, 1) := by decide +kernel
theorem dX12_lookAt_1 : decode cX12_lookAt 1 = .ok (.iload_n 1, 1) := by decide +kernel
theorem dX12_lookAt_2 : decode cX12_lookAt 2 = .ok (.putfield 190, 3) := by decide +kernel
theorem dX12_lookAt_5 : decode cX12_lookAt 5 = .ok (.aload_n 0, 1) := by decide +kernel
theorem dX12_lookAt_6 : decode cX12_lookAt 6 = .ok (.getfield 190, 3) := by decide +kernel
theorem dX12_lookAt_9 : decode cX12_lookAt 9 = .ok (.aload_n 0, 1) := by decide +kernel
theorem dX12_lookAt_10 : decode cX12_lookAt 10 = .ok (.getfield 179, 3) := by decide +kernel
theorem dX12_lookAt_13 : decode cX12_lookAt 13 = .ok (.if_icmp .ge 30, 3) := by decide +kernel
theorem dX12_lookAt_16 : decode cX12_lookAt 16 = .ok (.aload_n 0, 1) := by decide +kernel
theorem dX12_lookAt_17 : decode cX12_lookAt 17 = .ok (.getfield 36, 3) := by decide +kernel
theorem dX12_lookAt_20 : decode cX12_lookAt 20 = .ok (.aload_n 0, 1) := by decide +kernel
theorem dX12_lookAt_21 : decode cX12_lookAt 21 = .ok (.getfield 190, 3) := by decide +kernel
theorem dX12_lookAt_24 : decode cX12_lookAt 24 = .ok (.iaload, 1) := by decide +kernel
theorem dX12_lookAt_25 : decode cX12_lookAt 25 = .ok (.bipush 32, 2) := by decide +kernel
theorem dX12_lookAt_27 : decode cX12_lookAt 27 = .ok (.if_icmp .ne 16, 3) := by decide +kernel
theorem dX12_lookAt_30 : decode cX12_lookAt 30 = .ok (.aload_n 0, 1) := by decide +kernel
theorem dX12_lookAt_31 : decode cX12_lookAt 31 = .ok (.dup, 1) := by decide +kernel
theorem dX12_lookAt_32 : decode cX12_lookAt 32 = .ok (.getfield 190, 3) := by decide +kernel
theorem dX12_lookAt_35 : decode cX12_lookAt 35 = .ok (.iconst 1, 1) := by decide +kernel
theorem dX12_lookAt_36 : decode cX12_lookAt 36 = .ok (.iadd, 1) := by decide +kernel
theorem dX12_lookAt_37 : decode cX12_lookAt 37 = .ok (.putfield 190, 3) := by decide +kernel
theorem dX12_lookAt_40 : decode cX12_lookAt 40 = .ok (.goto (-35), 3) := by decide +kernel
theorem dX12_lookAt_43 : decode cX12_lookAt 43 = .ok (.aload_n 0, 1) := by decide +kernel
theorem dX12_lookAt_44 : decode cX12_lookAt 44 = .ok (.iconst 0, 1) := by decide +kernel
theorem dX12_lookAt_45 : decode cX12_lookAt 45 = .ok (.putfield 193, 3) := by decide +kernel
theorem dX12_lookAt_48 : decode cX12_lookAt 48 = .ok (.aload_n 0, 1) := by decide +kernel
theorem dX12_lookAt_49 : decode cX12_lookAt 49 = .ok (.iconst 0, 1) := by decide +kernel
theorem dX12_lookAt_50 : decode cX12_lookAt 50 = .ok (.putfield 196, 3) := by decide +kernel
theorem dX12_lookAt_53 : decode cX12_lookAt 53 = .ok (.aload_n 0, 1) := by decide +kernel
theorem dX12_lookAt_54 : decode cX12_lookAt 54 = .ok (.iconst 0, 1) := by decide +kernel
theorem dX12_lookAt_55 : decode cX12_lookAt 55 = .ok (.putfield 199, 3) := by decide +kernel
theorem dX12_lookAt_58 : decode cX12_lookAt 58 = .ok (.aload_n 0, 1) := by decide +kernel
theorem dX12_lookAt_59 : decode cX12_lookAt 59 = .ok (.getfield 190, 3) := by decide +kernel
theorem dX12_lookAt_62 : decode cX12_lookAt 62 = .ok (.aload_n 0, 1) := by decide +kernel
theorem dX12_lookAt_63 : decode cX12_lookAt 63 = .ok (.getfield 179, 3) := by decide +kernel
theorem dX12_lookAt_66 : decode cX12_lookAt 66 = .ok (.if_icmp .ne 4, 3) := by decide +kernel
theorem dX12_lookAt_69 : decode cX12_lookAt 69 = .ok (.return_, 1) := by decide +kernel
theorem dX12_lookAt_70 : decode cX12_lookAt 70 = .ok (.aload_n 0, 1) := by decide +kernel
theorem dX12_lookAt_71 : decode cX12_lookAt 71 = .ok (.getfield 36, 3) := by decide +kernel
theorem dX12_lookAt_74 : decode cX12_lookAt 74 = .ok (.aload_n 0, 1) := by decide +kernel
theorem dX12_lookAt_75 : decode cX12_lookAt 75 = .ok (.getfield 190, 3) := by decide +kernel
theorem dX12_lookAt_78 : decode cX12_lookAt 78 = .ok (.iaload, 1) := by decide +kernel
theorem dX12_lookAt_79 : decode cX12_lookAt 79 = .ok (.istore_n 2, 1) := by decide +kernel
theorem dX12_lookAt_80 : decode cX12_lookAt 80 = .ok (.aload_n 0, 1) := by decide +kernel
theorem dX12_lookAt_81 : decode cX12_lookAt 81 = .ok (.iload_n 2, 1) := by decide +kernel
theorem dX12_lookAt_82 : decode cX12_lookAt 82 = .ok (.invokestatic 202, 3) := by decide +kernel
theorem dX12_lookAt_85 : decode cX12_lookAt 85 = .ok (.ifCond .eq 7, 3) := by decide +kernel
theorem dX12_lookAt_88 : decode cX12_lookAt 88 = .ok (.iconst 1, 1) := by decide +kernel
theorem dX12_lookAt_89 : decode cX12_lookAt 89 = .ok (.goto 25, 3) := by decide +kernel
theorem dX12_lookAt_92 : decode cX12_lookAt 92 = .ok (.iload_n 2, 1) := by decide +kernel
theorem dX12_lookAt_93 : decode cX12_lookAt 93 = .ok (.invokestatic 205, 3) := by decide +kernel
theorem dX12_lookAt_96 : decode cX12_lookAt 96 = .ok (.ifCond .eq 7, 3) := by decide +kernel
theorem dX12_lookAt_99 : decode cX12_lookAt 99 = .ok (.iconst 2, 1) := by decide +kernel
theorem dX12_lookAt_100 : decode cX12_lookAt 100 = .ok (.goto 14, 3) := by decide +kernel
theorem dX12_lookAt_103 : decode cX12_lookAt 103 = .ok (.iload_n 2, 1) := by decide +kernel
theorem dX12_lookAt_104 : decode cX12_lookAt 104 = .ok (.bipush 59, 2) := by decide +kernel
theorem dX12_lookAt_106 : decode cX12_lookAt 106 = .ok (.if_icmp .ne 7, 3) := by decide +kernel
theorem dX12_lookAt_109 : decode cX12_lookAt 109 = .ok (.iconst 3, 1) := by decide +kernel
theorem dX12_lookAt_110 : decode cX12_lookAt 110 = .ok (.goto 4, 3) := by decide +kernel
theorem dX12_lookAt_113 : decode cX12_lookAt 113 = .ok (.iconst 4, 1) := by decide +kernel
theorem dX12_lookAt_114 : decode cX12_lookAt 114 = .ok (.putfield 196, 3) := by decide +kernel
theorem dX12_lookAt_117 : decode cX12_lookAt 117 = .ok (.aload_n 0, 1) := by decide +kernel
theorem dX12_lookAt_118 : decode cX12_lookAt 118 = .ok (.iconst 1, 1) := by decide +kernel
theorem dX12_lookAt_119 : decode cX12_lookAt 119 = .ok (.putfield 193, 3) := by decide +kernel
theorem dX12_lookAt_122 : decode cX12_lookAt 122 = .ok (.aload_n 0, 1) := by decide +kernel
theorem dX12_lookAt_123 : decode cX12_lookAt 123 = .ok (.getfield 196, 3) := by decide +kernel
theorem dX12_lookAt_126 : decode cX12_lookAt 126 = .ok (.iconst 3, 1) := by decide +kernel
theorem dX12_lookAt_127 : decode cX12_lookAt 127 = .ok (.if_icmp .ge 7, 3) := by decide +kernel
theorem dX12_lookAt_130 : decode cX12_lookAt 130 = .ok (.iconst 1, 1) := by decide +kernel
theorem dX12_lookAt_131 : decode cX12_lookAt 131 = .ok (.goto 4, 3) := by decide +kernel
theorem dX12_lookAt_134 : decode cX12_lookAt 134 = .ok (.iconst 0, 1) := by decide +kernel
theorem dX12_lookAt_135 : decode cX12_lookAt 135 = .ok (.istore_n 3, 1) := by decide +kernel
theorem dX12_lookAt_136 : decode cX12_lookAt 136 = .ok (.iload_n 3, 1) := by decide +kernel
theorem dX12_lookAt_137 : decode cX12_lookAt 137 = .ok (.ifCond .eq 78, 3) := by decide +kernel
theorem dX12_lookAt_140 : decode cX12_lookAt 140 = .ok (.aload_n 0, 1) := by decide +kernel
theorem dX12_lookAt_141 : decode cX12_lookAt 141 = .ok (.getfield 190, 3) := by decide +kernel
theorem dX12_lookAt_144 : decode cX12_lookAt 144 = .ok (.aload_n 0, 1) := by decide +kernel
theorem dX12_lookAt_145 : decode cX12_lookAt 145 = .ok (.getfield 193, 3) := by decide +kernel
theorem dX12_lookAt_148 : decode cX12_lookAt 148 = .ok (.iadd, 1) := by decide +kernel
theorem dX12_lookAt_149 : decode cX12_lookAt 149 = .ok (.aload_n 0, 1) := by decide +kernel
theorem dX12_lookAt_150 : decode cX12_lookAt 150 = .ok (.getfield 179, 3) := by decide +kernel
theorem dX12_lookAt_153 : decode cX12_lookAt 153 = .ok (.if_icmp .ge 62, 3) := by decide +kernel
theorem dX12_lookAt_156 : decode cX12_lookAt 156 = .ok (.aload_n 0, 1) := by decide +kernel
theorem dX12_lookAt_157 : decode cX12_lookAt 157 = .ok (.getfield 36, 3) := by decide +kernel
theorem dX12_lookAt_160 : decode cX12_lookAt 160 = .ok (.aload_n 0, 1) := by decide +kernel
theorem dX12_lookAt_161 : decode cX12_lookAt 161 = .ok (.getfield 190, 3) := by decide +kernel
theorem dX12_lookAt_164 : decode cX12_lookAt 164 = .ok (.aload_n 0, 1) := by decide +kernel
theorem dX12_lookAt_165 : decode cX12_lookAt 165 = .ok (.getfield 193, 3) := by decide +kernel
theorem dX12_lookAt_168 : decode cX12_lookAt 168 = .ok (.iadd, 1) := by decide +kernel
theorem dX12_lookAt_169 : decode cX12_lookAt 169 = .ok (.iaload, 1) := by decide +kernel
theorem dX12_lookAt_170 : decode cX12_lookAt 170 = .ok (.istore 4, 2) := by decide +kernel
theorem dX12_lookAt_172 : decode cX12_lookAt 172 = .ok (.aload_n 0, 1) := by decide +kernel
theorem dX12_lookAt_173 : decode cX12_lookAt 173 = .ok (.getfield 196, 3) := by decide +kernel
theorem dX12_lookAt_176 : decode cX12_lookAt 176 = .ok (.iconst 1, 1) := by decide +kernel
theorem dX12_lookAt_177 : decode cX12_lookAt 177 = .ok (.if_icmp .ne 11, 3) := by decide +kernel
theorem dX12_lookAt_180 : decode cX12_lookAt 180 = .ok (.iload 4, 2) := by decide +kernel
theorem dX12_lookAt_182 : decode cX12_lookAt 182 = .ok (.invokestatic 202, 3) := by decide +kernel
theorem dX12_lookAt_185 : decode cX12_lookAt 185 = .ok (.goto 8, 3) := by decide +kernel
theorem dX12_lookAt_188 : decode cX12_lookAt 188 = .ok (.iload 4, 2) := by decide +kernel
theorem dX12_lookAt_190 : decode cX12_lookAt 190 = .ok (.invokestatic 205, 3) := by decide +kernel
theorem dX12_lookAt_193 : decode cX12_lookAt 193 = .ok (.istore_n 3, 1) := by decide +kernel
theorem dX12_lookAt_194 : decode cX12_lookAt 194 = .ok (.aload_n 0, 1) := by decide +kernel
theorem dX12_lookAt_195 : decode cX12_lookAt 195 = .ok (.dup, 1) := by decide +kernel
theorem dX12_lookAt_196 : decode cX12_lookAt 196 = .ok (.getfield 193, 3) := by decide +kernel
theorem dX12_lookAt_199 : decode cX12_lookAt 199 = .ok (.iload_n 3, 1) := by decide +kernel
theorem dX12_lookAt_200 : decode cX12_lookAt 200 = .ok (.ifCond .eq 7, 3) := by decide +kernel
theorem dX12_lookAt_203 : decode cX12_lookAt 203 = .ok (.iconst 1, 1) := by decide +kernel
theorem dX12_lookAt_204 : decode cX12_lookAt 204 = .ok (.goto 4, 3) := by decide +kernel
theorem dX12_lookAt_207 : decode cX12_lookAt 207 = .ok (.iconst 0, 1) := by decide +kernel
theorem dX12_lookAt_208 : decode cX12_lookAt 208 = .ok (.iadd, 1) := by decide +kernel
theorem dX12_lookAt_209 : decode cX12_lookAt 209 = .ok (.putfield 193, 3) := by decide +kernel
theorem dX12_lookAt_212 : decode cX12_lookAt 212 = .ok (.goto (-76), 3) := by decide +kernel
theorem dX12_lookAt_215 : decode cX12_lookAt 215 = .ok (.iconst 0, 1) := by decide +kernel
theorem dX12_lookAt_216 : decode cX12_lookAt 216 = .ok (.istore 4, 2) := by decide +kernel
theorem dX12_lookAt_218 : decode cX12_lookAt 218 = .ok (.iload 4, 2) := by decide +kernel
theorem dX12_lookAt_220 : decode cX12_lookAt 220 = .ok (.aload_n 0, 1) := by decide +kernel
theorem dX12_lookAt_221 : decode cX12_lookAt 221 = .ok (.getfield 193, 3) := by decide +kernel
theorem dX12_lookAt_224 : decode cX12_lookAt 224 = .ok (.if_icmp .ge 50, 3) := by decide +kernel
theorem dX12_lookAt_227 : decode cX12_lookAt 227 = .ok (.iload 4, 2) := by decide +kernel
theorem dX12_lookAt_229 : decode cX12_lookAt 229 = .ok (.iconst 2, 1) := by decide +kernel
theorem dX12_lookAt_230 : decode cX12_lookAt 230 = .ok (.if_icmp .ge 44, 3) := by decide +kernel
theorem dX12_lookAt_233 : decode cX12_lookAt 233 = .ok (.aload_n 0, 1) := by decide +kernel
theorem dX12_lookAt_234 : decode cX12_lookAt 234 = .ok (.getfield 196, 3) := by decide +kernel
theorem dX12_lookAt_237 : decode cX12_lookAt 237 = .ok (.iconst 2, 1) := by decide +kernel
theorem dX12_lookAt_238 : decode cX12_lookAt 238 = .ok (.if_icmp .ne 36, 3) := by decide +kernel
theorem dX12_lookAt_241 : decode cX12_lookAt 241 = .ok (.aload_n 0, 1) := by decide +kernel
theorem dX12_lookAt_242 : decode cX12_lookAt 242 = .ok (.bipush 10, 2) := by decide +kernel
theorem dX12_lookAt_244 : decode cX12_lookAt 244 = .ok (.aload_n 0, 1) := by decide +kernel
theorem dX12_lookAt_245 : decode cX12_lookAt 245 = .ok (.getfield 199, 3) := by decide +kernel
theorem dX12_lookAt_248 : decode cX12_lookAt 248 = .ok (.imul, 1) := by decide +kernel
theorem dX12_lookAt_249 : decode cX12_lookAt 249 = .ok (.aload_n 0, 1) := by decide +kernel
theorem dX12_lookAt_250 : decode cX12_lookAt 250 = .ok (.getfield 36, 3) := by decide +kernel
theorem dX12_lookAt_253 : decode cX12_lookAt 253 = .ok (.aload_n 0, 1) := by decide +kernel
theorem dX12_lookAt_254 : decode cX12_lookAt 254 = .ok (.getfield 190, 3) := by decide +kernel
theorem dX12_lookAt_257 : decode cX12_lookAt 257 = .ok (.iload 4, 2) := by decide +kernel
theorem dX12_lookAt_259 : decode cX12_lookAt 259 = .ok (.iadd, 1) := by decide +kernel
theorem dX12_lookAt_260 : decode cX12_lookAt 260 = .ok (.iaload, 1) := by decide +kernel
theorem dX12_lookAt_261 : decode cX12_lookAt 261 = .ok (.iadd, 1) := by decide +kernel
theorem dX12_lookAt_262 : decode cX12_lookAt 262 = .ok (.bipush 48, 2) := by decide +kernel
theorem dX12_lookAt_264 : decode cX12_lookAt 264 = .ok (.isub, 1) := by decide +kernel
theorem dX12_lookAt_265 : decode cX12_lookAt 265 = .ok (.putfield 199, 3) := by decide +kernel
theorem dX12_lookAt_268 : decode cX12_lookAt 268 = .ok (.iinc 4 1, 3) := by decide +kernel
theorem dX12_lookAt_271 : decode cX12_lookAt 271 = .ok (.goto (-53), 3) := by decide +kernel
theorem dX12_lookAt_274 : decode cX12_lookAt 274 = .ok (.aload_n 0, 1) := by decide +kernel
theorem dX12_lookAt_275 : decode cX12_lookAt 275 = .ok (.aload_n 0, 1) := by decide +kernel
theorem dX12_lookAt_276 : decode cX12_lookAt 276 = .ok (.getfield 196, 3) := by decide +kernel
theorem dX12_lookAt_279 : decode cX12_lookAt 279 = .ok (.iconst 2, 1) := by decide +kernel
theorem dX12_lookAt_280 : decode cX12_lookAt 280 = .ok (.if_icmp .ne 15, 3) := by decide +kernel
theorem dX12_lookAt_283 : decode cX12_lookAt 283 = .ok (.aload_n 0, 1) := by decide +kernel
theorem dX12_lookAt_284 : decode cX12_lookAt 284 = .ok (.getfield 193, 3) := by decide +kernel
theorem dX12_lookAt_287 : decode cX12_lookAt 287 = .ok (.iconst 2, 1) := by decide +kernel
theorem dX12_lookAt_288 : decode cX12_lookAt 288 = .ok (.if_icmp .le 7, 3) := by decide +kernel
theorem dX12_lookAt_291 : decode cX12_lookAt 291 = .ok (.iconst 4, 1) := by decide +kernel
theorem dX12_lookAt_292 : decode cX12_lookAt 292 = .ok (.goto 7, 3) := by decide +kernel
theorem dX12_lookAt_295 : decode cX12_lookAt 295 = .ok (.aload_n 0, 1) := by decide +kernel
theorem dX12_lookAt_296 : decode cX12_lookAt 296 = .ok (.getfield 196, 3) := by decide +kernel
theorem dX12_lookAt_299 : decode cX12_lookAt 299 = .ok (.putfield 196, 3) := by decide +kernel
theorem dX12_lookAt_302 : decode cX12_lookAt 302 = .ok (.return_, 1) := by decide +kernel
theorem dX12_goBehind_0 : decode cX12_goBehind 0 = .ok (.aload_n 0, 1) := by decide +kernel
theorem dX12_goBehind_1 : decode cX12_goBehind 1 = .ok (.aload_n 0, 1) := by decide +kernel
theorem dX12_goBehind_2 : decode cX12_goBehind 2 = .ok (.getfield 190, 3) := by decide +kernel
theorem dX12_goBehind_5 : decode cX12_goBehind 5 = .ok (.aload_n 0, 1) := by decide +kernel
theorem dX12_goBehind_6 : decode cX12_goBehind 6 = .ok (.getfield 193, 3) := by decide +kernel
theorem dX12_goBehind_9 : decode cX12_goBehind 9 = .ok (.iadd, 1) := by decide +kernel
theorem dX12_goBehind_10 : decode cX12_goBehind 10 = .ok (.invokevirtual 208, 3) := by decide +kernel
theorem dX12_goBehind_13 : decode cX12_goBehind 13 = .ok (.return_, 1) := by decide +kernel
theorem dX12_spells_0 : decode cX12_spells 0 = .ok (.aload_n 0, 1) := by decide +kernel
theorem dX12_spells_1 : decode cX12_spells 1 = .ok (.getfield 196, 3) := by decide +kernel
theorem dX12_spells_4 : decode cX12_spells 4 = .ok (.iconst 1, 1) := by decide +kernel
theorem dX12_spells_5 : decode cX12_spells 5 = .ok (.if_icmp .ne 15, 3) := by decide +kernel
theorem dX12_spells_8 : decode cX12_spells 8 = .ok (.aload_n 0, 1) := by decide +kernel
theorem dX12_spells_9 : decode cX12_spells 9 = .ok (.getfield 193, 3) := by decide +kernel
theorem dX12_spells_12 : decode cX12_spells 12 = .ok (.iload_n 1, 1) := by decide +kernel
theorem dX12_spells_13 : decode cX12_spells 13 = .ok (.if_icmp .ne 7, 3) := by decide +kernel
theorem dX12_spells_16 : decode cX12_spells 16 = .ok (.iconst 1, 1) := by decide +kernel
theorem dX12_spells_17 : decode cX12_spells 17 = .ok (.goto 4, 3) := by decide +kernel
theorem dX12_spells_20 : decode cX12_spells 20 = .ok (.iconst 0, 1) := by decide +kernel
theorem dX12_spells_21 : decode cX12_spells 21 = .ok (.istore 8, 2) := by decide +kernel
theorem dX12_spells_23 : decode cX12_spells 23 = .ok (.iconst 0, 1) := by decide +kernel
theorem dX12_spells_24 : decode cX12_spells 24 = .ok (.istore 9, 2) := by decide +kernel
theorem dX12_spells_26 : decode cX12_spells 26 = .ok (.iload 9, 2) := by decide +kernel
theorem dX12_spells_28 : decode cX12_spells 28 = .ok (.iload_n 1, 1) := by decide +kernel
theorem dX12_spells_29 : decode cX12_spells 29 = .ok (.if_icmp .ge 90, 3) := by decide +kernel
theorem dX12_spells_32 : decode cX12_spells 32 = .ok (.iload 8, 2) := by decide +kernel
theorem dX12_spells_34 : decode cX12_spells 34 = .ok (.ifCond .eq 85, 3) := by decide +kernel
theorem dX12_spells_37 : decode cX12_spells 37 = .ok (.aload_n 0, 1) := by decide +kernel
theorem dX12_spells_38 : decode cX12_spells 38 = .ok (.getfield 36, 3) := by decide +kernel
theorem dX12_spells_41 : decode cX12_spells 41 = .ok (.aload_n 0, 1) := by decide +kernel
theorem dX12_spells_42 : decode cX12_spells 42 = .ok (.getfield 190, 3) := by decide +kernel
theorem dX12_spells_45 : decode cX12_spells 45 = .ok (.iload 9, 2) := by decide +kernel
theorem dX12_spells_47 : decode cX12_spells 47 = .ok (.iadd, 1) := by decide +kernel
theorem dX12_spells_48 : decode cX12_spells 48 = .ok (.iaload, 1) := by decide +kernel
theorem dX12_spells_49 : decode cX12_spells 49 = .ok (.iload 9, 2) := by decide +kernel
theorem dX12_spells_51 : decode cX12_spells 51 = .ok (.ifCond .ne 7, 3) := by decide +kernel
theorem dX12_spells_54 : decode cX12_spells 54 = .ok (.iload_n 2, 1) := by decide +kernel
theorem dX12_spells_55 : decode cX12_spells 55 = .ok (.goto 48, 3) := by decide +kernel
theorem dX12_spells_58 : decode cX12_spells 58 = .ok (.iload 9, 2) := by decide +kernel
theorem dX12_spells_60 : decode cX12_spells 60 = .ok (.iconst 1, 1) := by decide +kernel
theorem dX12_spells_61 : decode cX12_spells 61 = .ok (.if_icmp .ne 7, 3) := by decide +kernel
theorem dX12_spells_64 : decode cX12_spells 64 = .ok (.iload_n 3, 1) := by decide +kernel
theorem dX12_spells_65 : decode cX12_spells 65 = .ok (.goto 38, 3) := by decide +kernel
theorem dX12_spells_68 : decode cX12_spells 68 = .ok (.iload 9, 2) := by decide +kernel
theorem dX12_spells_70 : decode cX12_spells 70 = .ok (.iconst 2, 1) := by decide +kernel
theorem dX12_spells_71 : decode cX12_spells 71 = .ok (.if_icmp .ne 8, 3) := by decide +kernel
theorem dX12_spells_74 : decode cX12_spells 74 = .ok (.iload 4, 2) := by decide +kernel
theorem dX12_spells_76 : decode cX12_spells 76 = .ok (.goto 27, 3) := by decide +kernel
