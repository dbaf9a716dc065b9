theorem dX11_note_29 : decode cX11_note 29 = .ok (.iconst 1, 1) := by decide +kernel
theorem dX11_note_30 : decode cX11_note 30 = .ok (.invokestatic 70, 3) := by decide +kernel
theorem dX11_note_33 : decode cX11_note 33 = .ok (.ifCond .ne 10, 3) := by decide +kernel
theorem dX11_note_36 : decode cX11_note 36 = .ok (.aload_n 0, 1) := by decide +kernel
theorem dX11_note_37 : decode cX11_note 37 = .ok (.bipush (-2), 2) := by decide +kernel
theorem dX11_note_39 : decode cX11_note 39 = .ok (.invokevirtual 74, 3) := by decide +kernel
theorem dX11_note_42 : decode cX11_note 42 = .ok (.ireturn, 1) := by decide +kernel
theorem dX11_note_43 : decode cX11_note 43 = .ok (.aload_n 0, 1) := by decide +kernel
theorem dX11_note_44 : decode cX11_note 44 = .ok (.getfield 34, 3) := by decide +kernel
theorem dX11_note_47 : decode cX11_note 47 = .ok (.getfield 204, 3) := by decide +kernel
theorem dX11_note_50 : decode cX11_note 50 = .ok (.bipush 6, 2) := by decide +kernel
theorem dX11_note_52 : decode cX11_note 52 = .ok (.if_icmp .lt 10, 3) := by decide +kernel
theorem dX11_note_55 : decode cX11_note 55 = .ok (.aload_n 0, 1) := by decide +kernel
theorem dX11_note_56 : decode cX11_note 56 = .ok (.bipush (-4), 2) := by decide +kernel
theorem dX11_note_58 : decode cX11_note 58 = .ok (.invokevirtual 74, 3) := by decide +kernel
theorem dX11_note_61 : decode cX11_note 61 = .ok (.ireturn, 1) := by decide +kernel
theorem dX11_note_62 : decode cX11_note 62 = .ok (.aload_n 0, 1) := by decide +kernel
theorem dX11_note_63 : decode cX11_note 63 = .ok (.getfield 34, 3) := by decide +kernel
theorem dX11_note_66 : decode cX11_note 66 = .ok (.iload_n 1, 1) := by decide +kernel
theorem dX11_note_67 : decode cX11_note 67 = .ok (.iload_n 2, 1) := by decide +kernel
theorem dX11_note_68 : decode cX11_note 68 = .ok (.iload_n 3, 1) := by decide +kernel
theorem dX11_note_69 : decode cX11_note 69 = .ok (.iload 4, 2) := by decide +kernel
theorem dX11_note_71 : decode cX11_note 71 = .ok (.invokevirtual 207, 3) := by decide +kernel
theorem dX11_note_74 : decode cX11_note 74 = .ok (.aload_n 0, 1) := by decide +kernel
theorem dX11_note_75 : decode cX11_note 75 = .ok (.getfield 34, 3) := by decide +kernel
theorem dX11_note_78 : decode cX11_note 78 = .ok (.getfield 204, 3) := by decide +kernel
theorem dX11_note_81 : decode cX11_note 81 = .ok (.ireturn, 1) := by decide +kernel
theorem dX11_forget_0 : decode cX11_forget 0 = .ok (.aload_n 0, 1) := by decide +kernel
theorem dX11_forget_1 : decode cX11_forget 1 = .ok (.getfield 34, 3) := by decide +kernel
theorem dX11_forget_4 : decode cX11_forget 4 = .ok (.getfield 204, 3) := by decide +kernel
theorem dX11_forget_7 : decode cX11_forget 7 = .ok (.istore_n 1, 1) := by decide +kernel
theorem dX11_forget_8 : decode cX11_forget 8 = .ok (.aload_n 0, 1) := by decide +kernel
theorem dX11_forget_9 : decode cX11_forget 9 = .ok (.getfield 34, 3) := by decide +kernel
theorem dX11_forget_12 : decode cX11_forget 12 = .ok (.iconst 0, 1) := by decide +kernel
theorem dX11_forget_13 : decode cX11_forget 13 = .ok (.putfield 204, 3) := by decide +kernel
theorem dX11_forget_16 : decode cX11_forget 16 = .ok (.iload_n 1, 1) := by decide +kernel
theorem dX11_forget_17 : decode cX11_forget 17 = .ok (.ireturn, 1) := by decide +kernel
theorem dX11_is_0 : decode cX11_is 0 = .ok (.aload_n 0, 1) := by decide +kernel
theorem dX11_is_1 : decode cX11_is 1 = .ok (.getfield 34, 3) := by decide +kernel
theorem dX11_is_4 : decode cX11_is 4 = .ok (.iload_n 1, 1) := by decide +kernel
theorem dX11_is_5 : decode cX11_is 5 = .ok (.invokevirtual 128, 3) := by decide +kernel
theorem dX11_is_8 : decode cX11_is 8 = .ok (.astore_n 2, 1) := by decide +kernel
theorem dX11_is_9 : decode cX11_is 9 = .ok (.aload_n 2, 1) := by decide +kernel
theorem dX11_is_10 : decode cX11_is 10 = .ok (.ifnonnull 12, 3) := by decide +kernel
theorem dX11_is_13 : decode cX11_is 13 = .ok (.aload_n 0, 1) := by decide +kernel
theorem dX11_is_14 : decode cX11_is 14 = .ok (.bipush (-2), 2) := by decide +kernel
theorem dX11_is_16 : decode cX11_is 16 = .ok (.invokevirtual 74, 3) := by decide +kernel
theorem dX11_is_19 : decode cX11_is 19 = .ok (.goto 9, 3) := by decide +kernel
theorem dX11_is_22 : decode cX11_is 22 = .ok (.aload_n 0, 1) := by decide +kernel
theorem dX11_is_23 : decode cX11_is 23 = .ok (.iload_n 1, 1) := by decide +kernel
theorem dX11_is_24 : decode cX11_is 24 = .ok (.aload_n 2, 1) := by decide +kernel
theorem dX11_is_25 : decode cX11_is 25 = .ok (.invokevirtual 210, 3) := by decide +kernel
theorem dX11_is_28 : decode cX11_is 28 = .ok (.ireturn, 1) := by decide +kernel
theorem dX11_holds_0 : decode cX11_holds 0 = .ok (.aload_n 0, 1) := by decide +kernel
theorem dX11_holds_1 : decode cX11_holds 1 = .ok (.getfield 34, 3) := by decide +kernel
theorem dX11_holds_4 : decode cX11_holds 4 = .ok (.iload_n 1, 1) := by decide +kernel
theorem dX11_holds_5 : decode cX11_holds 5 = .ok (.invokevirtual 128, 3) := by decide +kernel
theorem dX11_holds_8 : decode cX11_holds 8 = .ok (.astore_n 3, 1) := by decide +kernel
theorem dX11_holds_9 : decode cX11_holds 9 = .ok (.aload_n 3, 1) := by decide +kernel
theorem dX11_holds_10 : decode cX11_holds 10 = .ok (.ifnull 12, 3) := by decide +kernel
theorem dX11_holds_13 : decode cX11_holds 13 = .ok (.iload_n 2, 1) := by decide +kernel
theorem dX11_holds_14 : decode cX11_holds 14 = .ok (.bipush 7, 2) := by decide +kernel
theorem dX11_holds_16 : decode cX11_holds 16 = .ok (.invokestatic 70, 3) := by decide +kernel
theorem dX11_holds_19 : decode cX11_holds 19 = .ok (.ifCond .ne 10, 3) := by decide +kernel
theorem dX11_holds_22 : decode cX11_holds 22 = .ok (.aload_n 0, 1) := by decide +kernel
theorem dX11_holds_23 : decode cX11_holds 23 = .ok (.bipush (-2), 2) := by decide +kernel
theorem dX11_holds_25 : decode cX11_holds 25 = .ok (.invokevirtual 74, 3) := by decide +kernel
theorem dX11_holds_28 : decode cX11_holds 28 = .ok (.ireturn, 1) := by decide +kernel
theorem dX11_holds_29 : decode cX11_holds 29 = .ok (.iload_n 2, 1) := by decide +kernel
theorem dX11_holds_30 : decode cX11_holds 30 = .ok (.invokestatic 135, 3) := by decide +kernel
theorem dX11_holds_33 : decode cX11_holds 33 = .ok (.istore 4, 2) := by decide +kernel
theorem dX11_holds_35 : decode cX11_holds 35 = .ok (.aload_n 3, 1) := by decide +kernel
theorem dX11_holds_36 : decode cX11_holds 36 = .ok (.getfield 162, 3) := by decide +kernel
theorem dX11_holds_39 : decode cX11_holds 39 = .ok (.iload 4, 2) := by decide +kernel
theorem dX11_holds_41 : decode cX11_holds 41 = .ok (.iconst (-1), 1) := by decide +kernel
theorem dX11_holds_42 : decode cX11_holds 42 = .ok (.ixor, 1) := by decide +kernel
theorem dX11_holds_43 : decode cX11_holds 43 = .ok (.iand, 1) := by decide +kernel
theorem dX11_holds_44 : decode cX11_holds 44 = .ok (.istore 5, 2) := by decide +kernel
theorem dX11_holds_46 : decode cX11_holds 46 = .ok (.aload_n 3, 1) := by decide +kernel
theorem dX11_holds_47 : decode cX11_holds 47 = .ok (.getfield 165, 3) := by decide +kernel
theorem dX11_holds_50 : decode cX11_holds 50 = .ok (.iload 4, 2) := by decide +kernel
theorem dX11_holds_52 : decode cX11_holds 52 = .ok (.iconst (-1), 1) := by decide +kernel
theorem dX11_holds_53 : decode cX11_holds 53 = .ok (.ixor, 1) := by decide +kernel
theorem dX11_holds_54 : decode cX11_holds 54 = .ok (.iand, 1) := by decide +kernel
theorem dX11_holds_55 : decode cX11_holds 55 = .ok (.istore 6, 2) := by decide +kernel
theorem dX11_holds_57 : decode cX11_holds 57 = .ok (.aload_n 0, 1) := by decide +kernel
theorem dX11_holds_58 : decode cX11_holds 58 = .ok (.iload_n 1, 1) := by decide +kernel
theorem dX11_holds_59 : decode cX11_holds 59 = .ok (.aload_n 3, 1) := by decide +kernel
theorem dX11_holds_60 : decode cX11_holds 60 = .ok (.getfield 157, 3) := by decide +kernel
theorem dX11_holds_63 : decode cX11_holds 63 = .ok (.iload 5, 2) := by decide +kernel
theorem dX11_holds_65 : decode cX11_holds 65 = .ok (.iload 4, 2) := by decide +kernel
theorem dX11_holds_67 : decode cX11_holds 67 = .ok (.ior, 1) := by decide +kernel
theorem dX11_holds_68 : decode cX11_holds 68 = .ok (.iload 6, 2) := by decide +kernel
theorem dX11_holds_70 : decode cX11_holds 70 = .ok (.invokevirtual 214, 3) := by decide +kernel
theorem dX11_holds_73 : decode cX11_holds 73 = .ok (.invokestatic 171, 3) := by decide +kernel
theorem dX11_holds_76 : decode cX11_holds 76 = .ok (.istore 7, 2) := by decide +kernel
theorem dX11_holds_78 : decode cX11_holds 78 = .ok (.aload_n 0, 1) := by decide +kernel
theorem dX11_holds_79 : decode cX11_holds 79 = .ok (.iload_n 1, 1) := by decide +kernel
theorem dX11_holds_80 : decode cX11_holds 80 = .ok (.aload_n 3, 1) := by decide +kernel
theorem dX11_holds_81 : decode cX11_holds 81 = .ok (.getfield 157, 3) := by decide +kernel
theorem dX11_holds_84 : decode cX11_holds 84 = .ok (.iload 5, 2) := by decide +kernel
theorem dX11_holds_86 : decode cX11_holds 86 = .ok (.iload 6, 2) := by decide +kernel
theorem dX11_holds_88 : decode cX11_holds 88 = .ok (.iload 4, 2) := by decide +kernel
theorem dX11_holds_90 : decode cX11_holds 90 = .ok (.ior, 1) := by decide +kernel
theorem dX11_holds_91 : decode cX11_holds 91 = .ok (.invokevirtual 214, 3) := by decide +kernel
theorem dX11_holds_94 : decode cX11_holds 94 = .ok (.invokestatic 171, 3) := by decide +kernel
theorem dX11_holds_97 : decode cX11_holds 97 = .ok (.istore 8, 2) := by decide +kernel
theorem dX11_holds_99 : decode cX11_holds 99 = .ok (.aload_n 0, 1) := by decide +kernel
theorem dX11_holds_100 : decode cX11_holds 100 = .ok (.iload_n 1, 1) := by decide +kernel
theorem dX11_holds_101 : decode cX11_holds 101 = .ok (.aload_n 3, 1) := by decide +kernel
theorem dX11_holds_102 : decode cX11_holds 102 = .ok (.getfield 157, 3) := by decide +kernel
theorem dX11_holds_105 : decode cX11_holds 105 = .ok (.iload 5, 2) := by decide +kernel
theorem dX11_holds_107 : decode cX11_holds 107 = .ok (.iload 6, 2) := by decide +kernel
theorem dX11_holds_109 : decode cX11_holds 109 = .ok (.invokevirtual 214, 3) := by decide +kernel
theorem dX11_holds_112 : decode cX11_holds 112 = .ok (.invokestatic 171, 3) := by decide +kernel
theorem dX11_holds_115 : decode cX11_holds 115 = .ok (.istore 9, 2) := by decide +kernel
theorem dX11_holds_117 : decode cX11_holds 117 = .ok (.iload 7, 2) := by decide +kernel
theorem dX11_holds_119 : decode cX11_holds 119 = .ok (.iload 8, 2) := by decide +kernel
theorem dX11_holds_121 : decode cX11_holds 121 = .ok (.iconst 1, 1) := by decide +kernel
theorem dX11_holds_122 : decode cX11_holds 122 = .ok (.ishl, 1) := by decide +kernel
theorem dX11_holds_123 : decode cX11_holds 123 = .ok (.ior, 1) := by decide +kernel
theorem dX11_holds_124 : decode cX11_holds 124 = .ok (.iload 9, 2) := by decide +kernel
theorem dX11_holds_126 : decode cX11_holds 126 = .ok (.iconst 2, 1) := by decide +kernel
theorem dX11_holds_127 : decode cX11_holds 127 = .ok (.ishl, 1) := by decide +kernel
theorem dX11_holds_128 : decode cX11_holds 128 = .ok (.ior, 1) := by decide +kernel
theorem dX11_holds_129 : decode cX11_holds 129 = .ok (.ireturn, 1) := by decide +kernel
theorem dX11_tryNext_0 : decode cX11_tryNext 0 = .ok (.aload_n 0, 1) := by decide +kernel
theorem dX11_tryNext_1 : decode cX11_tryNext 1 = .ok (.getfield 34, 3) := by decide +kernel
theorem dX11_tryNext_4 : decode cX11_tryNext 4 = .ok (.iload_n 1, 1) := by decide +kernel
theorem dX11_tryNext_5 : decode cX11_tryNext 5 = .ok (.invokevirtual 128, 3) := by decide +kernel
theorem dX11_tryNext_8 : decode cX11_tryNext 8 = .ok (.astore_n 2, 1) := by decide +kernel
theorem dX11_tryNext_9 : decode cX11_tryNext 9 = .ok (.aload_n 2, 1) := by decide +kernel
theorem dX11_tryNext_10 : decode cX11_tryNext 10 = .ok (.ifnonnull 10, 3) := by decide +kernel
theorem dX11_tryNext_13 : decode cX11_tryNext 13 = .ok (.aload_n 0, 1) := by decide +kernel
theorem dX11_tryNext_14 : decode cX11_tryNext 14 = .ok (.bipush (-2), 2) := by decide +kernel
theorem dX11_tryNext_16 : decode cX11_tryNext 16 = .ok (.invokevirtual 74, 3) := by decide +kernel
theorem dX11_tryNext_19 : decode cX11_tryNext 19 = .ok (.ireturn, 1) := by decide +kernel
theorem dX11_tryNext_20 : decode cX11_tryNext 20 = .ok (.aload_n 0, 1) := by decide +kernel
theorem dX11_tryNext_21 : decode cX11_tryNext 21 = .ok (.iload_n 1, 1) := by decide +kernel
theorem dX11_tryNext_22 : decode cX11_tryNext 22 = .ok (.aload_n 2, 1) := by decide +kernel
theorem dX11_tryNext_23 : decode cX11_tryNext 23 = .ok (.invokevirtual 210, 3) := by decide +kernel
theorem dX11_tryNext_26 : decode cX11_tryNext 26 = .ok (.istore_n 3, 1) := by decide +kernel
theorem dX11_tryNext_27 : decode cX11_tryNext 27 = .ok (.iload_n 3, 1) := by decide +kernel
theorem dX11_tryNext_28 : decode cX11_tryNext 28 = .ok (.ifCond .ne 5, 3) := by decide +kernel
theorem dX11_tryNext_31 : decode cX11_tryNext 31 = .ok (.iconst (-1), 1) := by decide +kernel
theorem dX11_tryNext_32 : decode cX11_tryNext 32 = .ok (.ireturn, 1) := by decide +kernel
theorem dX11_tryNext_33 : decode cX11_tryNext 33 = .ok (.iload_n 3, 1) := by decide +kernel
theorem dX11_tryNext_34 : decode cX11_tryNext 34 = .ok (.invokestatic 192, 3) := by decide +kernel
theorem dX11_tryNext_37 : decode cX11_tryNext 37 = .ok (.istore 4, 2) := by decide +kernel
theorem dX11_tryNext_39 : decode cX11_tryNext 39 = .ok (.iconst (-1), 1) := by decide +kernel
theorem dX11_tryNext_40 : decode cX11_tryNext 40 = .ok (.istore 5, 2) := by decide +kernel
theorem dX11_tryNext_42 : decode cX11_tryNext 42 = .ok (.iload 4, 2) := by decide +kernel
theorem dX11_tryNext_44 : decode cX11_tryNext 44 = .ok (.iconst 1, 1) := by decide +kernel
theorem dX11_tryNext_45 : decode cX11_tryNext 45 = .ok (.iadd, 1) := by decide +kernel
theorem dX11_tryNext_46 : decode cX11_tryNext 46 = .ok (.istore 6, 2) := by decide +kernel
theorem dX11_tryNext_48 : decode cX11_tryNext 48 = .ok (.iconst 1, 1) := by decide +kernel
theorem dX11_tryNext_49 : decode cX11_tryNext 49 = .ok (.istore 7, 2) := by decide +kernel
theorem dX11_tryNext_51 : decode cX11_tryNext 51 = .ok (.iload 7, 2) := by decide +kernel
theorem dX11_tryNext_53 : decode cX11_tryNext 53 = .ok (.sipush 255, 3) := by decide +kernel
theorem dX11_tryNext_56 : decode cX11_tryNext 56 = .ok (.if_icmp .gt 50, 3) := by decide +kernel
theorem dX11_tryNext_59 : decode cX11_tryNext 59 = .ok (.iload_n 3, 1) := by decide +kernel
theorem dX11_tryNext_60 : decode cX11_tryNext 60 = .ok (.aload_n 0, 1) := by decide +kernel
theorem dX11_tryNext_61 : decode cX11_tryNext 61 = .ok (.aload_n 2, 1) := by decide +kernel
theorem dX11_tryNext_62 : decode cX11_tryNext 62 = .ok (.iload 7, 2) := by decide +kernel
theorem dX11_tryNext_64 : decode cX11_tryNext 64 = .ok (.invokevirtual 217, 3) := by decide +kernel
theorem dX11_tryNext_67 : decode cX11_tryNext 67 = .ok (.iand, 1) := by decide +kernel
theorem dX11_tryNext_68 : decode cX11_tryNext 68 = .ok (.invokestatic 192, 3) := by decide +kernel
theorem dX11_tryNext_71 : decode cX11_tryNext 71 = .ok (.istore 8, 2) := by decide +kernel
theorem dX11_tryNext_73 : decode cX11_tryNext 73 = .ok (.iload 8, 2) := by decide +kernel
theorem dX11_tryNext_75 : decode cX11_tryNext 75 = .ok (.iload 4, 2) := by decide +kernel
theorem dX11_tryNext_77 : decode cX11_tryNext 77 = .ok (.iload 8, 2) := by decide +kernel
theorem dX11_tryNext_79 : decode cX11_tryNext 79 = .ok (.isub, 1) := by decide +kernel
theorem dX11_tryNext_80 : decode cX11_tryNext 80 = .ok (.invokestatic 220, 3) := by decide +kernel
theorem dX11_tryNext_83 : decode cX11_tryNext 83 = .ok (.istore 9, 2) := by decide +kernel
theorem dX11_tryNext_85 : decode cX11_tryNext 85 = .ok (.iload 9, 2) := by decide +kernel
theorem dX11_tryNext_87 : decode cX11_tryNext 87 = .ok (.iload 6, 2) := by decide +kernel
theorem dX11_tryNext_89 : decode cX11_tryNext 89 = .ok (.if_icmp .ge 11, 3) := by decide +kernel
theorem dX11_tryNext_92 : decode cX11_tryNext 92 = .ok (.iload 9, 2) := by decide +kernel
theorem dX11_tryNext_94 : decode cX11_tryNext 94 = .ok (.istore 6, 2) := by decide +kernel
theorem dX11_tryNext_96 : decode cX11_tryNext 96 = .ok (.iload 7, 2) := by decide +kernel
theorem dX11_tryNext_98 : decode cX11_tryNext 98 = .ok (.istore 5, 2) := by decide +kernel
theorem dX11_tryNext_100 : decode cX11_tryNext 100 = .ok (.iinc 7 1, 3) := by decide +kernel
theorem dX11_tryNext_103 : decode cX11_tryNext 103 = .ok (.goto (-52), 3) := by decide +kernel
theorem dX11_tryNext_106 : decode cX11_tryNext 106 = .ok (.iload 5, 2) := by decide +kernel
theorem dX11_tryNext_108 : decode cX11_tryNext 108 = .ok (.ireturn, 1) := by decide +kernel
theorem dX11_away_0 : decode cX11_away 0 = .ok (.iload_n 1, 1) := by decide +kernel
theorem dX11_away_1 : decode cX11_away 1 = .ok (.invokestatic 86, 3) := by decide +kernel
theorem dX11_away_4 : decode cX11_away 4 = .ok (.ifCond .eq 12, 3) := by decide +kernel
theorem dX11_away_7 : decode cX11_away 7 = .ok (.iload_n 2, 1) := by decide +kernel
theorem dX11_away_8 : decode cX11_away 8 = .ok (.bipush 10, 2) := by decide +kernel
theorem dX11_away_10 : decode cX11_away 10 = .ok (.invokestatic 70, 3) := by decide +kernel
theorem dX11_away_13 : decode cX11_away 13 = .ok (.ifCond .ne 10, 3) := by decide +kernel
theorem dX11_away_16 : decode cX11_away 16 = .ok (.aload_n 0, 1) := by decide +kernel
theorem dX11_away_17 : decode cX11_away 17 = .ok (.bipush (-2), 2) := by decide +kernel
theorem dX11_away_19 : decode cX11_away 19 = .ok (.invokevirtual 74, 3) := by decide +kernel
theorem dX11_away_22 : decode cX11_away 22 = .ok (.ireturn, 1) := by decide +kernel
theorem dX11_away_23 : decode cX11_away 23 = .ok (.iload_n 2, 1) := by decide +kernel
theorem dX11_away_24 : decode cX11_away 24 = .ok (.istore_n 3, 1) := by decide +kernel
theorem dX11_away_25 : decode cX11_away 25 = .ok (.bipush 10, 2) := by decide +kernel
theorem dX11_away_27 : decode cX11_away 27 = .ok (.istore 4, 2) := by decide +kernel
theorem dX11_away_29 : decode cX11_away 29 = .ok (.iload_n 3, 1) := by decide +kernel
theorem dX11_away_30 : decode cX11_away 30 = .ok (.iconst 2, 1) := by decide +kernel
theorem dX11_away_31 : decode cX11_away 31 = .ok (.irem, 1) := by decide +kernel
theorem dX11_away_32 : decode cX11_away 32 = .ok (.ifCond .ne 13, 3) := by decide +kernel
theorem dX11_away_35 : decode cX11_away 35 = .ok (.iload_n 3, 1) := by decide +kernel
theorem dX11_away_36 : decode cX11_away 36 = .ok (.iconst 2, 1) := by decide +kernel
theorem dX11_away_37 : decode cX11_away 37 = .ok (.idiv, 1) := by decide +kernel
theorem dX11_away_38 : decode cX11_away 38 = .ok (.istore_n 3, 1) := by decide +kernel
theorem dX11_away_39 : decode cX11_away 39 = .ok (.iload 4, 2) := by decide +kernel
theorem dX11_away_41 : decode cX11_away 41 = .ok (.iconst 2, 1) := by decide +kernel
theorem dX11_away_42 : decode cX11_away 42 = .ok (.idiv, 1) := by decide +kernel
theorem dX11_away_43 : decode cX11_away 43 = .ok (.istore 4, 2) := by decide +kernel
theorem dX11_away_45 : decode cX11_away 45 = .ok (.iload_n 3, 1) := by decide +kernel
theorem dX11_away_46 : decode cX11_away 46 = .ok (.iconst 5, 1) := by decide +kernel
theorem dX11_away_47 : decode cX11_away 47 = .ok (.irem, 1) := by decide +kernel
theorem dX11_away_48 : decode cX11_away 48 = .ok (.ifCond .ne 13, 3) := by decide +kernel
theorem dX11_away_51 : decode cX11_away 51 = .ok (.iload_n 3, 1) := by decide +kernel
theorem dX11_away_52 : decode cX11_away 52 = .ok (.iconst 5, 1) := by decide +kernel
theorem dX11_away_53 : decode cX11_away 53 = .ok (.idiv, 1) := by decide +kernel
theorem dX11_away_54 : decode cX11_away 54 = .ok (.istore_n 3, 1) := by decide +kernel
theorem dX11_away_55 : decode cX11_away 55 = .ok (.iload 4, 2) := by decide +kernel
theorem dX11_away_57 : decode cX11_away 57 = .ok (.iconst 5, 1) := by decide +kernel
theorem dX11_away_58 : decode cX11_away 58 = .ok (.idiv, 1) := by decide +kernel
theorem dX11_away_59 : decode cX11_away 59 = .ok (.istore 4, 2) := by decide +kernel
theorem dX11_away_61 : decode cX11_away 61 = .ok (.aload_n 0, 1) := by decide +kernel
theorem dX11_away_62 : decode cX11_away 62 = .ok (.aload_n 0, 1) := by decide +kernel
theorem dX11_away_63 : decode cX11_away 63 = .ok (.getfield 34, 3) := by decide +kernel
theorem dX11_away_66 : decode cX11_away 66 = .ok (.getfield 108, 3) := by decide +kernel
theorem dX11_away_69 : decode cX11_away 69 = .ok (.iload_n 1, 1) := by decide +kernel
theorem dX11_away_70 : decode cX11_away 70 = .ok (.invokevirtual 182, 3) := by decide +kernel
theorem dX11_away_73 : decode cX11_away 73 = .ok (.invokestatic 192, 3) := by decide +kernel
theorem dX11_away_76 : decode cX11_away 76 = .ok (.istore 5, 2) := by decide +kernel
theorem dX11_away_78 : decode cX11_away 78 = .ok (.aload_n 0, 1) := by decide +kernel
theorem dX11_away_79 : decode cX11_away 79 = .ok (.lconst 1, 1) := by decide +kernel
theorem dX11_away_80 : decode cX11_away 80 = .ok (.putfield 63, 3) := by decide +kernel
theorem dX11_away_83 : decode cX11_away 83 = .ok (.aload_n 0, 1) := by decide +kernel
theorem dX11_away_84 : decode cX11_away 84 = .ok (.lconst 1, 1) := by decide +kernel
theorem dX11_away_85 : decode cX11_away 85 = .ok (.putfield 67, 3) := by decide +kernel
theorem dX11_away_88 : decode cX11_away 88 = .ok (.iconst 0, 1) := by decide +kernel
theorem dX11_away_89 : decode cX11_away 89 = .ok (.istore 6, 2) := by decide +kernel
theorem dX11_away_91 : decode cX11_away 91 = .ok (.iload 6, 2) := by decide +kernel
theorem dX11_away_93 : decode cX11_away 93 = .ok (.iload 5, 2) := by decide +kernel
theorem dX11_away_95 : decode cX11_away 95 = .ok (.if_icmp .ge 32, 3) := by decide +kernel
theorem dX11_away_98 : decode cX11_away 98 = .ok (.aload_n 0, 1) := by decide +kernel
theorem dX11_away_99 : decode cX11_away 99 = .ok (.dup, 1) := by decide +kernel
theorem dX11_away_100 : decode cX11_away 100 = .ok (.getfield 63, 3) := by decide +kernel
theorem dX11_away_103 : decode cX11_away 103 = .ok (.iload_n 3, 1) := by decide +kernel
theorem dX11_away_104 : decode cX11_away 104 = .ok (.i2l, 1) := by decide +kernel
theorem dX11_away_105 : decode cX11_away 105 = .ok (.lmul, 1) := by decide +kernel
theorem dX11_away_106 : decode cX11_away 106 = .ok (.putfield 63, 3) := by decide +kernel
theorem dX11_away_109 : decode cX11_away 109 = .ok (.aload_n 0, 1) := by decide +kernel
theorem dX11_away_110 : decode cX11_away 110 = .ok (.dup, 1) := by decide +kernel
theorem dX11_away_111 : decode cX11_away 111 = .ok (.getfield 67, 3) := by decide +kernel
theorem dX11_away_114 : decode cX11_away 114 = .ok (.iload 4, 2) := by decide +kernel
theorem dX11_away_116 : decode cX11_away 116 = .ok (.i2l, 1) := by decide +kernel
theorem dX11_away_117 : decode cX11_away 117 = .ok (.lmul, 1) := by decide +kernel
theorem dX11_away_118 : decode cX11_away 118 = .ok (.putfield 67, 3) := by decide +kernel
theorem dX11_away_121 : decode cX11_away 121 = .ok (.iinc 6 1, 3) := by decide +kernel
theorem dX11_away_124 : decode cX11_away 124 = .ok (.goto (-33), 3) := by decide +kernel
theorem dX11_away_127 : decode cX11_away 127 = .ok (.iconst 1, 1) := by decide +kernel
theorem dX11_away_128 : decode cX11_away 128 = .ok (.ireturn, 1) := by decide +kernel
theorem dX11_diets_0 : decode cX11_diets 0 = .ok (.iload_n 1, 1) := by decide +kernel
theorem dX11_diets_1 : decode cX11_diets 1 = .ok (.ldc 225, 2) := by decide +kernel
theorem dX11_diets_3 : decode cX11_diets 3 = .ok (.invokestatic 70, 3) := by decide +kernel
theorem dX11_diets_6 : decode cX11_diets 6 = .ok (.ifCond .eq 12, 3) := by decide +kernel
theorem dX11_diets_9 : decode cX11_diets 9 = .ok (.iload_n 2, 1) := by decide +kernel
theorem dX11_diets_10 : decode cX11_diets 10 = .ok (.bipush 30, 2) := by decide +kernel
theorem dX11_diets_12 : decode cX11_diets 12 = .ok (.invokestatic 70, 3) := by decide +kernel
theorem dX11_diets_15 : decode cX11_diets 15 = .ok (.ifCond .ne 10, 3) := by decide +kernel
theorem dX11_diets_18 : decode cX11_diets 18 = .ok (.aload_n 0, 1) := by decide +kernel
theorem dX11_diets_19 : decode cX11_diets 19 = .ok (.bipush (-2), 2) := by decide +kernel
theorem dX11_diets_21 : decode cX11_diets 21 = .ok (.invokevirtual 74, 3) := by decide +kernel
theorem dX11_diets_24 : decode cX11_diets 24 = .ok (.ireturn, 1) := by decide +kernel
theorem dX11_diets_25 : decode cX11_diets 25 = .ok (.aload_n 0, 1) := by decide +kernel
theorem dX11_diets_26 : decode cX11_diets 26 = .ok (.getfield 52, 3) := by decide +kernel
theorem dX11_diets_29 : decode cX11_diets 29 = .ok (.aload_n 0, 1) := by decide +kernel
theorem dX11_diets_30 : decode cX11_diets 30 = .ok (.getfield 34, 3) := by decide +kernel
theorem dX11_diets_33 : decode cX11_diets 33 = .ok (.getfield 108, 3) := by decide +kernel
theorem dX11_diets_36 : decode cX11_diets 36 = .ok (.invokevirtual 226, 3) := by decide +kernel
theorem dX11_diets_39 : decode cX11_diets 39 = .ok (.iload_n 1, 1) := by decide +kernel
theorem dX11_diets_40 : decode cX11_diets 40 = .ok (.i2l, 1) := by decide +kernel
theorem dX11_diets_41 : decode cX11_diets 41 = .ok (.lstore_n 3, 1) := by decide +kernel
theorem dX11_diets_42 : decode cX11_diets 42 = .ok (.iconst 0, 1) := by decide +kernel
theorem dX11_diets_43 : decode cX11_diets 43 = .ok (.istore 5, 2) := by decide +kernel
theorem dX11_diets_45 : decode cX11_diets 45 = .ok (.iload 5, 2) := by decide +kernel
theorem dX11_diets_47 : decode cX11_diets 47 = .ok (.iload_n 2, 1) := by decide +kernel
theorem dX11_diets_48 : decode cX11_diets 48 = .ok (.if_icmp .ge 63, 3) := by decide +kernel
theorem dX11_diets_51 : decode cX11_diets 51 = .ok (.lload_n 3, 1) := by decide +kernel
theorem dX11_diets_52 : decode cX11_diets 52 = .ok (.ldc2_w 229, 3) := by decide +kernel
theorem dX11_diets_55 : decode cX11_diets 55 = .ok (.lmul, 1) := by decide +kernel
theorem dX11_diets_56 : decode cX11_diets 56 = .ok (.ldc2_w 231, 3) := by decide +kernel
theorem dX11_diets_59 : decode cX11_diets 59 = .ok (.ladd, 1) := by decide +kernel
theorem dX11_diets_60 : decode cX11_diets 60 = .ok (.ldc2_w 233, 3) := by decide +kernel
theorem dX11_diets_63 : decode cX11_diets 63 = .ok (.lrem, 1) := by decide +kernel
theorem dX11_diets_64 : decode cX11_diets 64 = .ok (.lstore_n 3, 1) := by decide +kernel
theorem dX11_diets_65 : decode cX11_diets 65 = .ok (.lload_n 3, 1) := by decide +kernel
theorem dX11_diets_66 : decode cX11_diets 66 = .ok (.ldc2_w 235, 3) := by decide +kernel
theorem dX11_diets_69 : decode cX11_diets 69 = .ok (.ldiv, 1) := by decide +kernel
theorem dX11_diets_70 : decode cX11_diets 70 = .ok (.ldc2_w 237, 3) := by decide +kernel
theorem dX11_diets_73 : decode cX11_diets 73 = .ok (.lrem, 1) := by decide +kernel
theorem dX11_diets_74 : decode cX11_diets 74 = .ok (.l2i, 1) := by decide +kernel
theorem dX11_diets_75 : decode cX11_diets 75 = .ok (.istore 6, 2) := by decide +kernel
theorem dX11_diets_77 : decode cX11_diets 77 = .ok (.aload_n 0, 1) := by decide +kernel
theorem dX11_diets_78 : decode cX11_diets 78 = .ok (.aload_n 0, 1) := by decide +kernel
theorem dX11_diets_79 : decode cX11_diets 79 = .ok (.getfield 52, 3) := by decide +kernel
theorem dX11_diets_82 : decode cX11_diets 82 = .ok (.iload 6, 2) := by decide +kernel
theorem dX11_diets_84 : decode cX11_diets 84 = .ok (.aload_n 0, 1) := by decide +kernel
theorem dX11_diets_85 : decode cX11_diets 85 = .ok (.getfield 52, 3) := by decide +kernel
theorem dX11_diets_88 : decode cX11_diets 88 = .ok (.invokevirtual 111, 3) := by decide +kernel
theorem dX11_diets_91 : decode cX11_diets 91 = .ok (.iand, 1) := by decide +kernel
theorem dX11_diets_92 : decode cX11_diets 92 = .ok (.invokevirtual 118, 3) := by decide +kernel
theorem dX11_diets_95 : decode cX11_diets 95 = .ok (.ifCond .ne 10, 3) := by decide +kernel
theorem dX11_diets_98 : decode cX11_diets 98 = .ok (.aload_n 0, 1) := by decide +kernel
theorem dX11_diets_99 : decode cX11_diets 99 = .ok (.getfield 52, 3) := by decide +kernel
theorem dX11_diets_102 : decode cX11_diets 102 = .ok (.invokevirtual 122, 3) := by decide +kernel
theorem dX11_diets_105 : decode cX11_diets 105 = .ok (.iinc 5 1, 3) := by decide +kernel
theorem dX11_diets_108 : decode cX11_diets 108 = .ok (.goto (-63), 3) := by decide +kernel
theorem dX11_diets_111 : decode cX11_diets 111 = .ok (.aload_n 0, 1) := by decide +kernel
theorem dX11_diets_112 : decode cX11_diets 112 = .ok (.getfield 52, 3) := by decide +kernel
theorem dX11_diets_115 : decode cX11_diets 115 = .ok (.getfield 125, 3) := by decide +kernel
theorem dX11_diets_118 : decode cX11_diets 118 = .ok (.invokestatic 192, 3) := by decide +kernel
theorem dX11_diets_121 : decode cX11_diets 121 = .ok (.ireturn, 1) := by decide +kernel
theorem dX11_part_0 : decode cX11_part 0 = .ok (.iload_n 1, 1) := by decide +kernel
theorem dX11_part_1 : decode cX11_part 1 = .ok (.iconst 1, 1) := by decide +kernel
theorem dX11_part_2 : decode cX11_part 2 = .ok (.invokestatic 70, 3) := by decide +kernel
theorem dX11_part_5 : decode cX11_part 5 = .ok (.ifCond .ne 11, 3) := by decide +kernel
theorem dX11_part_8 : decode cX11_part 8 = .ok (.aload_n 0, 1) := by decide +kernel
theorem dX11_part_9 : decode cX11_part 9 = .ok (.bipush (-2), 2) := by decide +kernel
theorem dX11_part_11 : decode cX11_part 11 = .ok (.invokevirtual 74, 3) := by decide +kernel
theorem dX11_part_14 : decode cX11_part 14 = .ok (.i2l, 1) := by decide +kernel
theorem dX11_part_15 : decode cX11_part 15 = .ok (.lreturn, 1) := by decide +kernel
theorem dX11_part_16 : decode cX11_part 16 = .ok (.iload_n 1, 1) := by decide +kernel
theorem dX11_part_17 : decode cX11_part 17 = .ok (.ifCond .ne 10, 3) := by decide +kernel
theorem dX11_part_20 : decode cX11_part 20 = .ok (.aload_n 0, 1) := by decide +kernel
theorem dX11_part_21 : decode cX11_part 21 = .ok (.getfield 63, 3) := by decide +kernel
theorem dX11_part_24 : decode cX11_part 24 = .ok (.goto 7, 3) := by decide +kernel
theorem dX11_part_27 : decode cX11_part 27 = .ok (.aload_n 0, 1) := by decide +kernel
theorem dX11_part_28 : decode cX11_part 28 = .ok (.getfield 67, 3) := by decide +kernel
theorem dX11_part_31 : decode cX11_part 31 = .ok (.lreturn, 1) := by decide +kernel
theorem dX11_image_0 : decode cX11_image 0 = .ok (.iload_n 1, 1) := by decide +kernel
theorem dX11_image_1 : decode cX11_image 1 = .ok (.aload_n 0, 1) := by decide +kernel
theorem dX11_image_2 : decode cX11_image 2 = .ok (.getfield 41, 3) := by decide +kernel
theorem dX11_image_5 : decode cX11_image 5 = .ok (.arraylength, 1) := by decide +kernel
theorem dX11_image_6 : decode cX11_image 6 = .ok (.iconst 1, 1) := by decide +kernel
theorem dX11_image_7 : decode cX11_image 7 = .ok (.isub, 1) := by decide +kernel
theorem dX11_image_8 : decode cX11_image 8 = .ok (.invokestatic 70, 3) := by decide +kernel
theorem dX11_image_11 : decode cX11_image 11 = .ok (.ifCond .ne 10, 3) := by decide +kernel
theorem dX11_image_14 : decode cX11_image 14 = .ok (.aload_n 0, 1) := by decide +kernel
theorem dX11_image_15 : decode cX11_image 15 = .ok (.bipush (-2), 2) := by decide +kernel
theorem dX11_image_17 : decode cX11_image 17 = .ok (.invokevirtual 74, 3) := by decide +kernel
theorem dX11_image_20 : decode cX11_image 20 = .ok (.ireturn, 1) := by decide +kernel
theorem dX11_image_21 : decode cX11_image 21 = .ok (.aload_n 0, 1) := by decide +kernel
theorem dX11_image_22 : decode cX11_image 22 = .ok (.getfield 41, 3) := by decide +kernel
theorem dX11_image_25 : decode cX11_image 25 = .ok (.iload_n 1, 1) := by decide +kernel
theorem dX11_image_26 : decode cX11_image 26 = .ok (.aaload, 1) := by decide +kernel
theorem dX11_image_27 : decode cX11_image 27 = .ok (.aload_n 0, 1) := by decide +kernel
theorem dX11_image_28 : decode cX11_image 28 = .ok (.getfield 34, 3) := by decide +kernel
theorem dX11_image_31 : decode cX11_image 31 = .ok (.invokevirtual 104, 3) := by decide +kernel
theorem dX11_image_34 : decode cX11_image 34 = .ok (.aload_n 0, 1) := by decide +kernel
theorem dX11_image_35 : decode cX11_image 35 = .ok (.getfield 45, 3) := by decide +kernel
theorem dX11_image_38 : decode cX11_image 38 = .ok (.iload_n 1, 1) := by decide +kernel
theorem dX11_image_39 : decode cX11_image 39 = .ok (.iconst 1, 1) := by decide +kernel
theorem dX11_image_40 : decode cX11_image 40 = .ok (.bastore, 1) := by decide +kernel
theorem dX11_image_41 : decode cX11_image 41 = .ok (.iconst 1, 1) := by decide +kernel
theorem dX11_image_42 : decode cX11_image 42 = .ok (.ireturn, 1) := by decide +kernel
theorem dX11_from_0 : decode cX11_from 0 = .ok (.iload_n 1, 1) := by decide +kernel
theorem dX11_from_1 : decode cX11_from 1 = .ok (.aload_n 0, 1) := by decide +kernel
theorem dX11_from_2 : decode cX11_from 2 = .ok (.getfield 41, 3) := by decide +kernel
theorem dX11_from_5 : decode cX11_from 5 = .ok (.arraylength, 1) := by decide +kernel
theorem dX11_from_6 : decode cX11_from 6 = .ok (.iconst 1, 1) := by decide +kernel
theorem dX11_from_7 : decode cX11_from 7 = .ok (.isub, 1) := by decide +kernel
theorem dX11_from_8 : decode cX11_from 8 = .ok (.invokestatic 70, 3) := by decide +kernel
theorem dX11_from_11 : decode cX11_from 11 = .ok (.ifCond .ne 10, 3) := by decide +kernel
theorem dX11_from_14 : decode cX11_from 14 = .ok (.aload_n 0, 1) := by decide +kernel
theorem dX11_from_15 : decode cX11_from 15 = .ok (.bipush (-2), 2) := by decide +kernel
theorem dX11_from_17 : decode cX11_from 17 = .ok (.invokevirtual 74, 3) := by decide +kernel
theorem dX11_from_20 : decode cX11_from 20 = .ok (.ireturn, 1) := by decide +kernel
theorem dX11_from_21 : decode cX11_from 21 = .ok (.aload_n 0, 1) := by decide +kernel
theorem dX11_from_22 : decode cX11_from 22 = .ok (.getfield 45, 3) := by decide +kernel
theorem dX11_from_25 : decode cX11_from 25 = .ok (.iload_n 1, 1) := by decide +kernel
theorem dX11_from_26 : decode cX11_from 26 = .ok (.baload, 1) := by decide +kernel
theorem dX11_from_27 : decode cX11_from 27 = .ok (.ifCond .ne 10, 3) := by decide +kernel
theorem dX11_from_30 : decode cX11_from 30 = .ok (.aload_n 0, 1) := by decide +kernel
theorem dX11_from_31 : decode cX11_from 31 = .ok (.bipush (-3), 2) := by decide +kernel
theorem dX11_from_33 : decode cX11_from 33 = .ok (.invokevirtual 74, 3) := by decide +kernel
theorem dX11_from_36 : decode cX11_from 36 = .ok (.ireturn, 1) := by decide +kernel
theorem dX11_from_37 : decode cX11_from 37 = .ok (.aload_n 0, 1) := by decide +kernel
theorem dX11_from_38 : decode cX11_from 38 = .ok (.getfield 34, 3) := by decide +kernel
theorem dX11_from_41 : decode cX11_from 41 = .ok (.aload_n 0, 1) := by decide +kernel
theorem dX11_from_42 : decode cX11_from 42 = .ok (.getfield 41, 3) := by decide +kernel
theorem dX11_from_45 : decode cX11_from 45 = .ok (.iload_n 1, 1) := by decide +kernel
theorem dX11_from_46 : decode cX11_from 46 = .ok (.aaload, 1) := by decide +kernel
theorem dX11_from_47 : decode cX11_from 47 = .ok (.invokevirtual 104, 3) := by decide +kernel
theorem dX11_from_50 : decode cX11_from 50 = .ok (.iconst 1, 1) := by decide +kernel
theorem dX11_from_51 : decode cX11_from 51 = .ok (.ireturn, 1) := by decide +kernel
theorem dX11_status_0 : decode cX11_status 0 = .ok (.iload_n 1, 1) := by decide +kernel
theorem dX11_status_1 : decode cX11_status 1 = .ok (.tableswitch 42 0 2 #[27, 32, 37], 27) := by decide +kernel
theorem dX11_status_28 : decode cX11_status 28 = .ok (.aload_n 0, 1) := by decide +kernel
theorem dX11_status_29 : decode cX11_status 29 = .ok (.getfield 239, 3) := by decide +kernel
theorem dX11_status_32 : decode cX11_status 32 = .ok (.ireturn, 1) := by decide +kernel
theorem dX11_status_33 : decode cX11_status 33 = .ok (.aload_n 0, 1) := by decide +kernel
theorem dX11_status_34 : decode cX11_status 34 = .ok (.getfield 242, 3) := by decide +kernel
theorem dX11_status_37 : decode cX11_status 37 = .ok (.ireturn, 1) := by decide +kernel
theorem dX11_status_38 : decode cX11_status 38 = .ok (.aload_n 0, 1) := by decide +kernel
theorem dX11_status_39 : decode cX11_status 39 = .ok (.getfield 245, 3) := by decide +kernel
theorem dX11_status_42 : decode cX11_status 42 = .ok (.ireturn, 1) := by decide +kernel
theorem dX11_status_43 : decode cX11_status 43 = .ok (.aload_n 0, 1) := by decide +kernel
theorem dX11_status_44 : decode cX11_status 44 = .ok (.bipush (-2), 2) := by decide +kernel
theorem dX11_status_46 : decode cX11_status 46 = .ok (.invokevirtual 74, 3) := by decide +kernel
theorem dX11_status_49 : decode cX11_status 49 = .ok (.pop, 1) := by decide +kernel
theorem dX11_status_50 : decode cX11_status 50 = .ok (.iconst (-1), 1) := by decide +kernel
theorem dX11_status_51 : decode cX11_status 51 = .ok (.ireturn, 1) := by decide +kernel
theorem dX11_count_0 : decode cX11_count 0 = .ok (.iload_n 1, 1) := by decide +kernel
theorem dX11_count_1 : decode cX11_count 1 = .ok (.bipush 7, 2) := by decide +kernel
theorem dX11_count_3 : decode cX11_count 3 = .ok (.invokestatic 70, 3) := by decide +kernel
theorem dX11_count_6 : decode cX11_count 6 = .ok (.ifCond .eq 11, 3) := by decide +kernel
theorem dX11_count_9 : decode cX11_count 9 = .ok (.aload_n 0, 1) := by decide +kernel
theorem dX11_count_10 : decode cX11_count 10 = .ok (.iload_n 1, 1) := by decide +kernel
theorem dX11_count_11 : decode cX11_count 11 = .ok (.invokevirtual 248, 3) := by decide +kernel
theorem dX11_count_14 : decode cX11_count 14 = .ok (.goto 9, 3) := by decide +kernel
theorem dX11_count_17 : decode cX11_count 17 = .ok (.aload_n 0, 1) := by decide +kernel
theorem dX11_count_18 : decode cX11_count 18 = .ok (.bipush (-2), 2) := by decide +kernel
theorem dX11_count_20 : decode cX11_count 20 = .ok (.invokevirtual 74, 3) := by decide +kernel
theorem dX11_count_23 : decode cX11_count 23 = .ok (.ireturn, 1) := by decide +kernel
theorem dX11_digest_0 : decode cX11_digest 0 = .ok (.ldc2_w 251, 3) := by decide +kernel
theorem dX11_digest_3 : decode cX11_digest 3 = .ok (.lstore_n 1, 1) := by decide +kernel
theorem dX11_digest_4 : decode cX11_digest 4 = .ok (.iconst 0, 1) := by decide +kernel
theorem dX11_digest_5 : decode cX11_digest 5 = .ok (.istore_n 3, 1) := by decide +kernel
theorem dX11_digest_6 : decode cX11_digest 6 = .ok (.iload_n 3, 1) := by decide +kernel
theorem dX11_digest_7 : decode cX11_digest 7 = .ok (.bipush 8, 2) := by decide +kernel
theorem dX11_digest_9 : decode cX11_digest 9 = .ok (.if_icmp .ge 22, 3) := by decide +kernel
theorem dX11_digest_12 : decode cX11_digest 12 = .ok (.ldc2_w 253, 3) := by decide +kernel
theorem dX11_digest_15 : decode cX11_digest 15 = .ok (.lload_n 1, 1) := by decide +kernel
theorem dX11_digest_16 : decode cX11_digest 16 = .ok (.lmul, 1) := by decide +kernel
theorem dX11_digest_17 : decode cX11_digest 17 = .ok (.aload_n 0, 1) := by decide +kernel
theorem dX11_digest_18 : decode cX11_digest 18 = .ok (.iload_n 3, 1) := by decide +kernel
theorem dX11_digest_19 : decode cX11_digest 19 = .ok (.invokevirtual 248, 3) := by decide +kernel
theorem dX11_digest_22 : decode cX11_digest 22 = .ok (.i2l, 1) := by decide +kernel
theorem dX11_digest_23 : decode cX11_digest 23 = .ok (.ladd, 1) := by decide +kernel
theorem dX11_digest_24 : decode cX11_digest 24 = .ok (.lstore_n 1, 1) := by decide +kernel
theorem dX11_digest_25 : decode cX11_digest 25 = .ok (.iinc 3 1, 3) := by decide +kernel
theorem dX11_digest_28 : decode cX11_digest 28 = .ok (.goto (-22), 3) := by decide +kernel
theorem dX11_digest_31 : decode cX11_digest 31 = .ok (.ldc2_w 253, 3) := by decide +kernel
theorem dX11_digest_34 : decode cX11_digest 34 = .ok (.lload_n 1, 1) := by decide +kernel
theorem dX11_digest_35 : decode cX11_digest 35 = .ok (.lmul, 1) := by decide +kernel
theorem dX11_digest_36 : decode cX11_digest 36 = .ok (.aload_n 0, 1) := by decide +kernel
theorem dX11_digest_37 : decode cX11_digest 37 = .ok (.getfield 34, 3) := by decide +kernel
theorem dX11_digest_40 : decode cX11_digest 40 = .ok (.getfield 108, 3) := by decide +kernel
theorem dX11_digest_43 : decode cX11_digest 43 = .ok (.getfield 179, 3) := by decide +kernel
theorem dX11_digest_46 : decode cX11_digest 46 = .ok (.i2l, 1) := by decide +kernel
theorem dX11_digest_47 : decode cX11_digest 47 = .ok (.ladd, 1) := by decide +kernel
theorem dX11_digest_48 : decode cX11_digest 48 = .ok (.lstore_n 1, 1) := by decide +kernel
theorem dX11_digest_49 : decode cX11_digest 49 = .ok (.ldc2_w 253, 3) := by decide +kernel
theorem dX11_digest_52 : decode cX11_digest 52 = .ok (.lload_n 1, 1) := by decide +kernel
theorem dX11_digest_53 : decode cX11_digest 53 = .ok (.lmul, 1) := by decide +kernel
theorem dX11_digest_54 : decode cX11_digest 54 = .ok (.aload_n 0, 1) := by decide +kernel
theorem dX11_digest_55 : decode cX11_digest 55 = .ok (.getfield 34, 3) := by decide +kernel
theorem dX11_digest_58 : decode cX11_digest 58 = .ok (.getfield 108, 3) := by decide +kernel
theorem dX11_digest_61 : decode cX11_digest 61 = .ok (.getfield 125, 3) := by decide +kernel
theorem dX11_digest_64 : decode cX11_digest 64 = .ok (.i2l, 1) := by decide +kernel
theorem dX11_digest_65 : decode cX11_digest 65 = .ok (.ladd, 1) := by decide +kernel
theorem dX11_digest_66 : decode cX11_digest 66 = .ok (.lstore_n 1, 1) := by decide +kernel
theorem dX11_digest_67 : decode cX11_digest 67 = .ok (.iconst 0, 1) := by decide +kernel
theorem dX11_digest_68 : decode cX11_digest 68 = .ok (.istore_n 3, 1) := by decide +kernel
theorem dX11_digest_69 : decode cX11_digest 69 = .ok (.iload_n 3, 1) := by decide +kernel
theorem dX11_digest_70 : decode cX11_digest 70 = .ok (.bipush 6, 2) := by decide +kernel
theorem dX11_digest_72 : decode cX11_digest 72 = .ok (.if_icmp .ge 16, 3) := by decide +kernel
theorem dX11_digest_75 : decode cX11_digest 75 = .ok (.aload_n 0, 1) := by decide +kernel
theorem dX11_digest_76 : decode cX11_digest 76 = .ok (.lload_n 1, 1) := by decide +kernel
theorem dX11_digest_77 : decode cX11_digest 77 = .ok (.iload_n 3, 1) := by decide +kernel
theorem dX11_digest_78 : decode cX11_digest 78 = .ok (.invokevirtual 255, 3) := by decide +kernel
theorem dX11_digest_81 : decode cX11_digest 81 = .ok (.lstore_n 1, 1) := by decide +kernel
theorem dX11_digest_82 : decode cX11_digest 82 = .ok (.iinc 3 1, 3) := by decide +kernel
theorem dX11_digest_85 : decode cX11_digest 85 = .ok (.goto (-16), 3) := by decide +kernel
theorem dX11_digest_88 : decode cX11_digest 88 = .ok (.iconst 0, 1) := by decide +kernel
theorem dX11_digest_89 : decode cX11_digest 89 = .ok (.istore_n 3, 1) := by decide +kernel
theorem dX11_digest_90 : decode cX11_digest 90 = .ok (.iload_n 3, 1) := by decide +kernel
theorem dX11_digest_91 : decode cX11_digest 91 = .ok (.bipush 6, 2) := by decide +kernel
theorem dX11_digest_93 : decode cX11_digest 93 = .ok (.if_icmp .ge 16, 3) := by decide +kernel
theorem dX11_digest_96 : decode cX11_digest 96 = .ok (.aload_n 0, 1) := by decide +kernel
theorem dX11_digest_97 : decode cX11_digest 97 = .ok (.lload_n 1, 1) := by decide +kernel
theorem dX11_digest_98 : decode cX11_digest 98 = .ok (.iload_n 3, 1) := by decide +kernel
theorem dX11_digest_99 : decode cX11_digest 99 = .ok (.invokevirtual 259, 3) := by decide +kernel
theorem dX11_digest_102 : decode cX11_digest 102 = .ok (.lstore_n 1, 1) := by decide +kernel
theorem dX11_digest_103 : decode cX11_digest 103 = .ok (.iinc 3 1, 3) := by decide +kernel
theorem dX11_digest_106 : decode cX11_digest 106 = .ok (.goto (-16), 3) := by decide +kernel
theorem dX11_digest_109 : decode cX11_digest 109 = .ok (.ldc2_w 253, 3) := by decide +kernel
theorem dX11_digest_112 : decode cX11_digest 112 = .ok (.lload_n 1, 1) := by decide +kernel
theorem dX11_digest_113 : decode cX11_digest 113 = .ok (.lmul, 1) := by decide +kernel
theorem dX11_digest_114 : decode cX11_digest 114 = .ok (.aload_n 0, 1) := by decide +kernel
theorem dX11_digest_115 : decode cX11_digest 115 = .ok (.getfield 63, 3) := by decide +kernel
theorem dX11_digest_118 : decode cX11_digest 118 = .ok (.ladd, 1) := by decide +kernel
theorem dX11_digest_119 : decode cX11_digest 119 = .ok (.lstore_n 1, 1) := by decide +kernel
theorem dX11_digest_120 : decode cX11_digest 120 = .ok (.ldc2_w 253, 3) := by decide +kernel
theorem dX11_digest_123 : decode cX11_digest 123 = .ok (.lload_n 1, 1) := by decide +kernel
theorem dX11_digest_124 : decode cX11_digest 124 = .ok (.lmul, 1) := by decide +kernel
theorem dX11_digest_125 : decode cX11_digest 125 = .ok (.aload_n 0, 1) := by decide +kernel
theorem dX11_digest_126 : decode cX11_digest 126 = .ok (.getfield 67, 3) := by decide +kernel
theorem dX11_digest_129 : decode cX11_digest 129 = .ok (.ladd, 1) := by decide +kernel
theorem dX11_digest_130 : decode cX11_digest 130 = .ok (.lreturn, 1) := by decide +kernel
theorem dX11_within_0 : decode cX11_within 0 = .ok (.iload_n 0, 1) := by decide +kernel
theorem dX11_within_1 : decode cX11_within 1 = .ok (.ifCond .lt 12, 3) := by decide +kernel
theorem dX11_within_4 : decode cX11_within 4 = .ok (.iload_n 0, 1) := by decide +kernel
theorem dX11_within_5 : decode cX11_within 5 = .ok (.iload_n 1, 1) := by decide +kernel
theorem dX11_within_6 : decode cX11_within 6 = .ok (.if_icmp .gt 7, 3) := by decide +kernel
theorem dX11_within_9 : decode cX11_within 9 = .ok (.iconst 1, 1) := by decide +kernel
theorem dX11_within_10 : decode cX11_within 10 = .ok (.goto 4, 3) := by decide +kernel
theorem dX11_within_13 : decode cX11_within 13 = .ok (.iconst 0, 1) := by decide +kernel
theorem dX11_within_14 : decode cX11_within 14 = .ok (.ireturn, 1) := by decide +kernel
theorem dX11_isBundle_0 : decode cX11_isBundle 0 = .ok (.iload_n 0, 1) := by decide +kernel
theorem dX11_isBundle_1 : decode cX11_isBundle 1 = .ok (.sipush 255, 3) := by decide +kernel
theorem dX11_isBundle_4 : decode cX11_isBundle 4 = .ok (.invokestatic 70, 3) := by decide +kernel
theorem dX11_isBundle_7 : decode cX11_isBundle 7 = .ok (.ireturn, 1) := by decide +kernel
theorem dX11_oneIf_0 : decode cX11_oneIf 0 = .ok (.iload_n 0, 1) := by decide +kernel
theorem dX11_oneIf_1 : decode cX11_oneIf 1 = .ok (.ifCond .eq 7, 3) := by decide +kernel
theorem dX11_oneIf_4 : decode cX11_oneIf 4 = .ok (.iconst 1, 1) := by decide +kernel
theorem dX11_oneIf_5 : decode cX11_oneIf 5 = .ok (.goto 4, 3) := by decide +kernel
theorem dX11_oneIf_8 : decode cX11_oneIf 8 = .ok (.iconst 0, 1) := by decide +kernel
theorem dX11_oneIf_9 : decode cX11_oneIf 9 = .ok (.ireturn, 1) := by decide +kernel
theorem dX11_bitOf_0 : decode cX11_bitOf 0 = .ok (.iload_n 0, 1) := by decide +kernel
theorem dX11_bitOf_1 : decode cX11_bitOf 1 = .ok (.ifCond .ge 7, 3) := by decide +kernel
theorem dX11_bitOf_4 : decode cX11_bitOf 4 = .ok (.iconst 0, 1) := by decide +kernel
theorem dX11_bitOf_5 : decode cX11_bitOf 5 = .ok (.goto 6, 3) := by decide +kernel
theorem dX11_bitOf_8 : decode cX11_bitOf 8 = .ok (.iconst 1, 1) := by decide +kernel
theorem dX11_bitOf_9 : decode cX11_bitOf 9 = .ok (.iload_n 0, 1) := by decide +kernel
theorem dX11_bitOf_10 : decode cX11_bitOf 10 = .ok (.ishl, 1) := by decide +kernel
theorem dX11_bitOf_11 : decode cX11_bitOf 11 = .ok (.ireturn, 1) := by decide +kernel
theorem dX11_refuse_0 : decode cX11_refuse 0 = .ok (.iload_n 1, 1) := by decide +kernel
theorem dX11_refuse_1 : decode cX11_refuse 1 = .ok (.lookupswitch 53 #[(-3, 40), (-2, 27)], 27) := by decide +kernel
theorem dX11_refuse_28 : decode cX11_refuse 28 = .ok (.aload_n 0, 1) := by decide +kernel
theorem dX11_refuse_29 : decode cX11_refuse 29 = .ok (.dup, 1) := by decide +kernel
theorem dX11_refuse_30 : decode cX11_refuse 30 = .ok (.getfield 239, 3) := by decide +kernel
theorem dX11_refuse_33 : decode cX11_refuse 33 = .ok (.iconst 1, 1) := by decide +kernel
theorem dX11_refuse_34 : decode cX11_refuse 34 = .ok (.iadd, 1) := by decide +kernel
theorem dX11_refuse_35 : decode cX11_refuse 35 = .ok (.putfield 239, 3) := by decide +kernel
theorem dX11_refuse_38 : decode cX11_refuse 38 = .ok (.goto 26, 3) := by decide +kernel
theorem dX11_refuse_41 : decode cX11_refuse 41 = .ok (.aload_n 0, 1) := by decide +kernel
theorem dX11_refuse_42 : decode cX11_refuse 42 = .ok (.dup, 1) := by decide +kernel
theorem dX11_refuse_43 : decode cX11_refuse 43 = .ok (.getfield 242, 3) := by decide +kernel
theorem dX11_refuse_46 : decode cX11_refuse 46 = .ok (.iconst 1, 1) := by decide +kernel
theorem dX11_refuse_47 : decode cX11_refuse 47 = .ok (.iadd, 1) := by decide +kernel
theorem dX11_refuse_48 : decode cX11_refuse 48 = .ok (.putfield 242, 3) := by decide +kernel
theorem dX11_refuse_51 : decode cX11_refuse 51 = .ok (.goto 13, 3) := by decide +kernel
theorem dX11_refuse_54 : decode cX11_refuse 54 = .ok (.aload_n 0, 1) := by decide +kernel
theorem dX11_refuse_55 : decode cX11_refuse 55 = .ok (.dup, 1) := by decide +kernel
theorem dX11_refuse_56 : decode cX11_refuse 56 = .ok (.getfield 245, 3) := by decide +kernel
theorem dX11_refuse_59 : decode cX11_refuse 59 = .ok (.iconst 1, 1) := by decide +kernel
theorem dX11_refuse_60 : decode cX11_refuse 60 = .ok (.iadd, 1) := by decide +kernel
theorem dX11_refuse_61 : decode cX11_refuse 61 = .ok (.putfield 245, 3) := by decide +kernel
theorem dX11_refuse_64 : decode cX11_refuse 64 = .ok (.iload_n 1, 1) := by decide +kernel
theorem dX11_refuse_65 : decode cX11_refuse 65 = .ok (.ireturn, 1) := by decide +kernel
theorem dX11_kindAt_0 : decode cX11_kindAt 0 = .ok (.aload_n 0, 1) := by decide +kernel
theorem dX11_kindAt_1 : decode cX11_kindAt 1 = .ok (.getfield 25, 3) := by decide +kernel
theorem dX11_kindAt_4 : decode cX11_kindAt 4 = .ok (.iload_n 1, 1) := by decide +kernel
theorem dX11_kindAt_5 : decode cX11_kindAt 5 = .ok (.aload_n 0, 1) := by decide +kernel
theorem dX11_kindAt_6 : decode cX11_kindAt 6 = .ok (.getfield 25, 3) := by decide +kernel
theorem dX11_kindAt_9 : decode cX11_kindAt 9 = .ok (.arraylength, 1) := by decide +kernel
theorem dX11_kindAt_10 : decode cX11_kindAt 10 = .ok (.iconst 1, 1) := by decide +kernel
theorem dX11_kindAt_11 : decode cX11_kindAt 11 = .ok (.isub, 1) := by decide +kernel
theorem dX11_kindAt_12 : decode cX11_kindAt 12 = .ok (.invokestatic 70, 3) := by decide +kernel
theorem dX11_kindAt_15 : decode cX11_kindAt 15 = .ok (.ifCond .eq 7, 3) := by decide +kernel
theorem dX11_kindAt_18 : decode cX11_kindAt 18 = .ok (.iload_n 1, 1) := by decide +kernel
theorem dX11_kindAt_19 : decode cX11_kindAt 19 = .ok (.goto 4, 3) := by decide +kernel
theorem dX11_kindAt_22 : decode cX11_kindAt 22 = .ok (.iconst 0, 1) := by decide +kernel
theorem dX11_kindAt_23 : decode cX11_kindAt 23 = .ok (.aaload, 1) := by decide +kernel
theorem dX11_kindAt_24 : decode cX11_kindAt 24 = .ok (.areturn, 1) := by decide +kernel
theorem dX11_costOf_0 : decode cX11_costOf 0 = .ok (.aload_n 0, 1) := by decide +kernel
theorem dX11_costOf_1 : decode cX11_costOf 1 = .ok (.aload_n 1, 1) := by decide +kernel
theorem dX11_costOf_2 : decode cX11_costOf 2 = .ok (.getfield 157, 3) := by decide +kernel
theorem dX11_costOf_5 : decode cX11_costOf 5 = .ok (.invokevirtual 262, 3) := by decide +kernel
theorem dX11_costOf_8 : decode cX11_costOf 8 = .ok (.aload_n 1, 1) := by decide +kernel
theorem dX11_costOf_9 : decode cX11_costOf 9 = .ok (.getfield 168, 3) := by decide +kernel
theorem dX11_costOf_12 : decode cX11_costOf 12 = .ok (.invokevirtual 266, 3) := by decide +kernel
theorem dX11_costOf_15 : decode cX11_costOf 15 = .ok (.ireturn, 1) := by decide +kernel
theorem dX11_costOfAll_0 : decode cX11_costOfAll 0 = .ok (.iconst 0, 1) := by decide +kernel
theorem dX11_costOfAll_1 : decode cX11_costOfAll 1 = .ok (.istore_n 2, 1) := by decide +kernel
theorem dX11_costOfAll_2 : decode cX11_costOfAll 2 = .ok (.iconst 0, 1) := by decide +kernel
theorem dX11_costOfAll_3 : decode cX11_costOfAll 3 = .ok (.istore_n 3, 1) := by decide +kernel
theorem dX11_costOfAll_4 : decode cX11_costOfAll 4 = .ok (.iload_n 3, 1) := by decide +kernel
theorem dX11_costOfAll_5 : decode cX11_costOfAll 5 = .ok (.aload_n 0, 1) := by decide +kernel
theorem dX11_costOfAll_6 : decode cX11_costOfAll 6 = .ok (.getfield 34, 3) := by decide +kernel
theorem dX11_costOfAll_9 : decode cX11_costOfAll 9 = .ok (.getfield 78, 3) := by decide +kernel
theorem dX11_costOfAll_12 : decode cX11_costOfAll 12 = .ok (.if_icmp .ge 42, 3) := by decide +kernel
theorem dX11_costOfAll_15 : decode cX11_costOfAll 15 = .ok (.aload_n 0, 1) := by decide +kernel
theorem dX11_costOfAll_16 : decode cX11_costOfAll 16 = .ok (.getfield 34, 3) := by decide +kernel
theorem dX11_costOfAll_19 : decode cX11_costOfAll 19 = .ok (.iload_n 3, 1) := by decide +kernel
theorem dX11_costOfAll_20 : decode cX11_costOfAll 20 = .ok (.invokevirtual 128, 3) := by decide +kernel
theorem dX11_costOfAll_23 : decode cX11_costOfAll 23 = .ok (.astore 4, 2) := by decide +kernel
theorem dX11_costOfAll_25 : decode cX11_costOfAll 25 = .ok (.aload 4, 2) := by decide +kernel
theorem dX11_costOfAll_27 : decode cX11_costOfAll 27 = .ok (.ifnull 21, 3) := by decide +kernel
theorem dX11_costOfAll_30 : decode cX11_costOfAll 30 = .ok (.iload_n 1, 1) := by decide +kernel
theorem dX11_costOfAll_31 : decode cX11_costOfAll 31 = .ok (.iload_n 3, 1) := by decide +kernel
theorem dX11_costOfAll_32 : decode cX11_costOfAll 32 = .ok (.invokestatic 135, 3) := by decide +kernel
theorem dX11_costOfAll_35 : decode cX11_costOfAll 35 = .ok (.iand, 1) := by decide +kernel
theorem dX11_costOfAll_36 : decode cX11_costOfAll 36 = .ok (.ifCond .eq 12, 3) := by decide +kernel
theorem dX11_costOfAll_39 : decode cX11_costOfAll 39 = .ok (.iload_n 2, 1) := by decide +kernel
theorem dX11_costOfAll_40 : decode cX11_costOfAll 40 = .ok (.aload_n 0, 1) := by decide +kernel
theorem dX11_costOfAll_41 : decode cX11_costOfAll 41 = .ok (.aload 4, 2) := by decide +kernel
theorem dX11_costOfAll_43 : decode cX11_costOfAll 43 = .ok (.invokevirtual 138, 3) := by decide +kernel
theorem dX11_costOfAll_46 : decode cX11_costOfAll 46 = .ok (.iadd, 1) := by decide +kernel
theorem dX11_costOfAll_47 : decode cX11_costOfAll 47 = .ok (.istore_n 2, 1) := by decide +kernel
theorem dX11_costOfAll_48 : decode cX11_costOfAll 48 = .ok (.iinc 3 1, 3) := by decide +kernel
theorem dX11_costOfAll_51 : decode cX11_costOfAll 51 = .ok (.goto (-47), 3) := by decide +kernel
theorem dX11_costOfAll_54 : decode cX11_costOfAll 54 = .ok (.iload_n 2, 1) := by decide +kernel
theorem dX11_costOfAll_55 : decode cX11_costOfAll 55 = .ok (.ireturn, 1) := by decide +kernel
theorem dX11_joyFor_0 : decode cX11_joyFor 0 = .ok (.aload_n 0, 1) := by decide +kernel
theorem dX11_joyFor_1 : decode cX11_joyFor 1 = .ok (.aload_n 1, 1) := by decide +kernel
theorem dX11_joyFor_2 : decode cX11_joyFor 2 = .ok (.getfield 157, 3) := by decide +kernel
theorem dX11_joyFor_5 : decode cX11_joyFor 5 = .ok (.invokevirtual 262, 3) := by decide +kernel
theorem dX11_joyFor_8 : decode cX11_joyFor 8 = .ok (.aload_n 1, 1) := by decide +kernel
theorem dX11_joyFor_9 : decode cX11_joyFor 9 = .ok (.getfield 162, 3) := by decide +kernel
theorem dX11_joyFor_12 : decode cX11_joyFor 12 = .ok (.iload_n 2, 1) := by decide +kernel
theorem dX11_joyFor_13 : decode cX11_joyFor 13 = .ok (.iand, 1) := by decide +kernel
theorem dX11_joyFor_14 : decode cX11_joyFor 14 = .ok (.invokestatic 192, 3) := by decide +kernel
theorem dX11_joyFor_17 : decode cX11_joyFor 17 = .ok (.aload_n 1, 1) := by decide +kernel
theorem dX11_joyFor_18 : decode cX11_joyFor 18 = .ok (.getfield 165, 3) := by decide +kernel
theorem dX11_joyFor_21 : decode cX11_joyFor 21 = .ok (.iload_n 2, 1) := by decide +kernel
theorem dX11_joyFor_22 : decode cX11_joyFor 22 = .ok (.iand, 1) := by decide +kernel
theorem dX11_joyFor_23 : decode cX11_joyFor 23 = .ok (.invokestatic 192, 3) := by decide +kernel
theorem dX11_joyFor_26 : decode cX11_joyFor 26 = .ok (.invokevirtual 269, 3) := by decide +kernel
theorem dX11_joyFor_29 : decode cX11_joyFor 29 = .ok (.ireturn, 1) := by decide +kernel
theorem dX11_gladOf_0 : decode cX11_gladOf 0 = .ok (.iconst 0, 1) := by decide +kernel
theorem dX11_gladOf_1 : decode cX11_gladOf 1 = .ok (.istore_n 2, 1) := by decide +kernel
theorem dX11_gladOf_2 : decode cX11_gladOf 2 = .ok (.iconst 0, 1) := by decide +kernel
theorem dX11_gladOf_3 : decode cX11_gladOf 3 = .ok (.istore_n 3, 1) := by decide +kernel
theorem dX11_gladOf_4 : decode cX11_gladOf 4 = .ok (.iload_n 3, 1) := by decide +kernel
theorem dX11_gladOf_5 : decode cX11_gladOf 5 = .ok (.aload_n 0, 1) := by decide +kernel
theorem dX11_gladOf_6 : decode cX11_gladOf 6 = .ok (.getfield 34, 3) := by decide +kernel
theorem dX11_gladOf_9 : decode cX11_gladOf 9 = .ok (.getfield 78, 3) := by decide +kernel
theorem dX11_gladOf_12 : decode cX11_gladOf 12 = .ok (.if_icmp .ge 45, 3) := by decide +kernel
theorem dX11_gladOf_15 : decode cX11_gladOf 15 = .ok (.aload_n 0, 1) := by decide +kernel
theorem dX11_gladOf_16 : decode cX11_gladOf 16 = .ok (.getfield 34, 3) := by decide +kernel
theorem dX11_gladOf_19 : decode cX11_gladOf 19 = .ok (.iload_n 3, 1) := by decide +kernel
theorem dX11_gladOf_20 : decode cX11_gladOf 20 = .ok (.invokevirtual 128, 3) := by decide +kernel
theorem dX11_gladOf_23 : decode cX11_gladOf 23 = .ok (.astore 4, 2) := by decide +kernel
theorem dX11_gladOf_25 : decode cX11_gladOf 25 = .ok (.iload_n 2, 1) := by decide +kernel
theorem dX11_gladOf_26 : decode cX11_gladOf 26 = .ok (.aload 4, 2) := by decide +kernel
theorem dX11_gladOf_28 : decode cX11_gladOf 28 = .ok (.ifnull 17, 3) := by decide +kernel
theorem dX11_gladOf_31 : decode cX11_gladOf 31 = .ok (.aload_n 0, 1) := by decide +kernel
theorem dX11_gladOf_32 : decode cX11_gladOf 32 = .ok (.aload 4, 2) := by decide +kernel
theorem dX11_gladOf_34 : decode cX11_gladOf 34 = .ok (.iload_n 1, 1) := by decide +kernel
theorem dX11_gladOf_35 : decode cX11_gladOf 35 = .ok (.invokevirtual 175, 3) := by decide +kernel
theorem dX11_gladOf_38 : decode cX11_gladOf 38 = .ok (.ifCond .le 7, 3) := by decide +kernel
theorem dX11_gladOf_41 : decode cX11_gladOf 41 = .ok (.iconst 1, 1) := by decide +kernel
theorem dX11_gladOf_42 : decode cX11_gladOf 42 = .ok (.goto 4, 3) := by decide +kernel
theorem dX11_gladOf_45 : decode cX11_gladOf 45 = .ok (.iconst 0, 1) := by decide +kernel
theorem dX11_gladOf_46 : decode cX11_gladOf 46 = .ok (.invokestatic 171, 3) := by decide +kernel
theorem dX11_gladOf_49 : decode cX11_gladOf 49 = .ok (.iadd, 1) := by decide +kernel
theorem dX11_gladOf_50 : decode cX11_gladOf 50 = .ok (.istore_n 2, 1) := by decide +kernel
theorem dX11_gladOf_51 : decode cX11_gladOf 51 = .ok (.iinc 3 1, 3) := by decide +kernel
theorem dX11_gladOf_54 : decode cX11_gladOf 54 = .ok (.goto (-50), 3) := by decide +kernel
theorem dX11_gladOf_57 : decode cX11_gladOf 57 = .ok (.iload_n 2, 1) := by decide +kernel
theorem dX11_gladOf_58 : decode cX11_gladOf 58 = .ok (.ireturn, 1) := by decide +kernel
theorem dX11_wouldStop_0 : decode cX11_wouldStop 0 = .ok (.iload 4, 2) := by decide +kernel
theorem dX11_wouldStop_2 : decode cX11_wouldStop 2 = .ok (.ifCond .ne 5, 3) := by decide +kernel
theorem dX11_wouldStop_5 : decode cX11_wouldStop 5 = .ok (.iconst 0, 1) := by decide +kernel
theorem dX11_wouldStop_6 : decode cX11_wouldStop 6 = .ok (.ireturn, 1) := by decide +kernel
theorem dX11_wouldStop_7 : decode cX11_wouldStop 7 = .ok (.aload_n 0, 1) := by decide +kernel
theorem dX11_wouldStop_8 : decode cX11_wouldStop 8 = .ok (.iload_n 1, 1) := by decide +kernel
theorem dX11_wouldStop_9 : decode cX11_wouldStop 9 = .ok (.invokevirtual 262, 3) := by decide +kernel
theorem dX11_wouldStop_12 : decode cX11_wouldStop 12 = .ok (.astore 6, 2) := by decide +kernel
theorem dX11_wouldStop_14 : decode cX11_wouldStop 14 = .ok (.iload_n 3, 1) := by decide +kernel
theorem dX11_wouldStop_15 : decode cX11_wouldStop 15 = .ok (.iload 4, 2) := by decide +kernel
theorem dX11_wouldStop_17 : decode cX11_wouldStop 17 = .ok (.iand, 1) := by decide +kernel
theorem dX11_wouldStop_18 : decode cX11_wouldStop 18 = .ok (.invokestatic 192, 3) := by decide +kernel
theorem dX11_wouldStop_21 : decode cX11_wouldStop 21 = .ok (.istore 7, 2) := by decide +kernel
theorem dX11_wouldStop_23 : decode cX11_wouldStop 23 = .ok (.aload 6, 2) := by decide +kernel
theorem dX11_wouldStop_25 : decode cX11_wouldStop 25 = .ok (.aload 6, 2) := by decide +kernel
theorem dX11_wouldStop_27 : decode cX11_wouldStop 27 = .ok (.iload_n 2, 1) := by decide +kernel
theorem dX11_wouldStop_28 : decode cX11_wouldStop 28 = .ok (.iload 4, 2) := by decide +kernel
theorem dX11_wouldStop_30 : decode cX11_wouldStop 30 = .ok (.iand, 1) := by decide +kernel
theorem dX11_wouldStop_31 : decode cX11_wouldStop 31 = .ok (.invokestatic 192, 3) := by decide +kernel
theorem dX11_wouldStop_34 : decode cX11_wouldStop 34 = .ok (.iload 7, 2) := by decide +kernel
theorem dX11_wouldStop_36 : decode cX11_wouldStop 36 = .ok (.invokevirtual 269, 3) := by decide +kernel
theorem dX11_wouldStop_39 : decode cX11_wouldStop 39 = .ok (.iload 7, 2) := by decide +kernel
theorem dX11_wouldStop_41 : decode cX11_wouldStop 41 = .ok (.iload 5, 2) := by decide +kernel
theorem dX11_wouldStop_43 : decode cX11_wouldStop 43 = .ok (.invokevirtual 272, 3) := by decide +kernel
theorem dX11_wouldStop_46 : decode cX11_wouldStop 46 = .ok (.ireturn, 1) := by decide +kernel
theorem dX11_stoppers_0 : decode cX11_stoppers 0 = .ok (.aload_n 1, 1) := by decide +kernel
theorem dX11_stoppers_1 : decode cX11_stoppers 1 = .ok (.getfield 132, 3) := by decide +kernel
theorem dX11_stoppers_4 : decode cX11_stoppers 4 = .ok (.aload_n 1, 1) := by decide +kernel
theorem dX11_stoppers_5 : decode cX11_stoppers 5 = .ok (.getfield 145, 3) := by decide +kernel
theorem dX11_stoppers_8 : decode cX11_stoppers 8 = .ok (.ior, 1) := by decide +kernel
theorem dX11_stoppers_9 : decode cX11_stoppers 9 = .ok (.istore_n 3, 1) := by decide +kernel
theorem dX11_stoppers_10 : decode cX11_stoppers 10 = .ok (.iconst 0, 1) := by decide +kernel
theorem dX11_stoppers_11 : decode cX11_stoppers 11 = .ok (.istore 4, 2) := by decide +kernel
theorem dX11_stoppers_13 : decode cX11_stoppers 13 = .ok (.iconst 0, 1) := by decide +kernel
theorem dX11_stoppers_14 : decode cX11_stoppers 14 = .ok (.istore 5, 2) := by decide +kernel
theorem dX11_stoppers_16 : decode cX11_stoppers 16 = .ok (.iload 5, 2) := by decide +kernel
theorem dX11_stoppers_18 : decode cX11_stoppers 18 = .ok (.aload_n 0, 1) := by decide +kernel
theorem dX11_stoppers_19 : decode cX11_stoppers 19 = .ok (.getfield 34, 3) := by decide +kernel
theorem dX11_stoppers_22 : decode cX11_stoppers 22 = .ok (.getfield 78, 3) := by decide +kernel
theorem dX11_stoppers_25 : decode cX11_stoppers 25 = .ok (.if_icmp .ge 72, 3) := by decide +kernel
theorem dX11_stoppers_28 : decode cX11_stoppers 28 = .ok (.aload_n 0, 1) := by decide +kernel
theorem dX11_stoppers_29 : decode cX11_stoppers 29 = .ok (.getfield 34, 3) := by decide +kernel
theorem dX11_stoppers_32 : decode cX11_stoppers 32 = .ok (.iload 5, 2) := by decide +kernel
theorem dX11_stoppers_34 : decode cX11_stoppers 34 = .ok (.invokevirtual 128, 3) := by decide +kernel
theorem dX11_stoppers_37 : decode cX11_stoppers 37 = .ok (.astore 6, 2) := by decide +kernel
theorem dX11_stoppers_39 : decode cX11_stoppers 39 = .ok (.aload 6, 2) := by decide +kernel
theorem dX11_stoppers_41 : decode cX11_stoppers 41 = .ok (.ifnull 50, 3) := by decide +kernel
