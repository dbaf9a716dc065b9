theorem dX11_stoppers_44 : decode cX11_stoppers 44 = .ok (.iload_n 3, 1) := by decide +kernel
theorem dX11_stoppers_45 : decode cX11_stoppers 45 = .ok (.iload 5, 2) := by decide +kernel
theorem dX11_stoppers_47 : decode cX11_stoppers 47 = .ok (.invokestatic 135, 3) := by decide +kernel
theorem dX11_stoppers_50 : decode cX11_stoppers 50 = .ok (.iand, 1) := by decide +kernel
theorem dX11_stoppers_51 : decode cX11_stoppers 51 = .ok (.ifCond .ne 40, 3) := by decide +kernel
theorem dX11_stoppers_54 : decode cX11_stoppers 54 = .ok (.aload_n 0, 1) := by decide +kernel
theorem dX11_stoppers_55 : decode cX11_stoppers 55 = .ok (.aload 6, 2) := by decide +kernel
theorem dX11_stoppers_57 : decode cX11_stoppers 57 = .ok (.getfield 157, 3) := by decide +kernel
theorem dX11_stoppers_60 : decode cX11_stoppers 60 = .ok (.aload 6, 2) := by decide +kernel
theorem dX11_stoppers_62 : decode cX11_stoppers 62 = .ok (.getfield 162, 3) := by decide +kernel
theorem dX11_stoppers_65 : decode cX11_stoppers 65 = .ok (.aload 6, 2) := by decide +kernel
theorem dX11_stoppers_67 : decode cX11_stoppers 67 = .ok (.getfield 165, 3) := by decide +kernel
theorem dX11_stoppers_70 : decode cX11_stoppers 70 = .ok (.iload_n 2, 1) := by decide +kernel
theorem dX11_stoppers_71 : decode cX11_stoppers 71 = .ok (.aload_n 1, 1) := by decide +kernel
theorem dX11_stoppers_72 : decode cX11_stoppers 72 = .ok (.getfield 154, 3) := by decide +kernel
theorem dX11_stoppers_75 : decode cX11_stoppers 75 = .ok (.invokevirtual 276, 3) := by decide +kernel
theorem dX11_stoppers_78 : decode cX11_stoppers 78 = .ok (.ifCond .eq 13, 3) := by decide +kernel
theorem dX11_stoppers_81 : decode cX11_stoppers 81 = .ok (.iload 4, 2) := by decide +kernel
theorem dX11_stoppers_83 : decode cX11_stoppers 83 = .ok (.iload 5, 2) := by decide +kernel
theorem dX11_stoppers_85 : decode cX11_stoppers 85 = .ok (.invokestatic 135, 3) := by decide +kernel
theorem dX11_stoppers_88 : decode cX11_stoppers 88 = .ok (.ior, 1) := by decide +kernel
theorem dX11_stoppers_89 : decode cX11_stoppers 89 = .ok (.istore 4, 2) := by decide +kernel
theorem dX11_stoppers_91 : decode cX11_stoppers 91 = .ok (.iinc 5 1, 3) := by decide +kernel
theorem dX11_stoppers_94 : decode cX11_stoppers 94 = .ok (.goto (-78), 3) := by decide +kernel
theorem dX11_stoppers_97 : decode cX11_stoppers 97 = .ok (.iload 4, 2) := by decide +kernel
theorem dX11_stoppers_99 : decode cX11_stoppers 99 = .ok (.ireturn, 1) := by decide +kernel
theorem dX11_moveIn_0 : decode cX11_moveIn 0 = .ok (.aload_n 0, 1) := by decide +kernel
theorem dX11_moveIn_1 : decode cX11_moveIn 1 = .ok (.aload_n 1, 1) := by decide +kernel
theorem dX11_moveIn_2 : decode cX11_moveIn 2 = .ok (.iload_n 2, 1) := by decide +kernel
theorem dX11_moveIn_3 : decode cX11_moveIn 3 = .ok (.invokevirtual 182, 3) := by decide +kernel
theorem dX11_moveIn_6 : decode cX11_moveIn 6 = .ok (.istore_n 3, 1) := by decide +kernel
theorem dX11_moveIn_7 : decode cX11_moveIn 7 = .ok (.iload_n 3, 1) := by decide +kernel
theorem dX11_moveIn_8 : decode cX11_moveIn 8 = .ok (.ifCond .ne 16, 3) := by decide +kernel
theorem dX11_moveIn_11 : decode cX11_moveIn 11 = .ok (.aload_n 1, 1) := by decide +kernel
theorem dX11_moveIn_12 : decode cX11_moveIn 12 = .ok (.dup, 1) := by decide +kernel
theorem dX11_moveIn_13 : decode cX11_moveIn 13 = .ok (.getfield 179, 3) := by decide +kernel
theorem dX11_moveIn_16 : decode cX11_moveIn 16 = .ok (.iload_n 2, 1) := by decide +kernel
theorem dX11_moveIn_17 : decode cX11_moveIn 17 = .ok (.ior, 1) := by decide +kernel
theorem dX11_moveIn_18 : decode cX11_moveIn 18 = .ok (.putfield 179, 3) := by decide +kernel
theorem dX11_moveIn_21 : decode cX11_moveIn 21 = .ok (.goto 12, 3) := by decide +kernel
theorem dX11_moveIn_24 : decode cX11_moveIn 24 = .ok (.aload_n 1, 1) := by decide +kernel
theorem dX11_moveIn_25 : decode cX11_moveIn 25 = .ok (.iconst 0, 1) := by decide +kernel
theorem dX11_moveIn_26 : decode cX11_moveIn 26 = .ok (.putfield 179, 3) := by decide +kernel
theorem dX11_moveIn_29 : decode cX11_moveIn 29 = .ok (.aload_n 1, 1) := by decide +kernel
theorem dX11_moveIn_30 : decode cX11_moveIn 30 = .ok (.invokevirtual 122, 3) := by decide +kernel
theorem dX11_moveIn_33 : decode cX11_moveIn 33 = .ok (.iload_n 3, 1) := by decide +kernel
theorem dX11_moveIn_34 : decode cX11_moveIn 34 = .ok (.ireturn, 1) := by decide +kernel
theorem dX11_bestBundle_0 : decode cX11_bestBundle 0 = .ok (.aload_n 0, 1) := by decide +kernel
theorem dX11_bestBundle_1 : decode cX11_bestBundle 1 = .ok (.getfield 34, 3) := by decide +kernel
theorem dX11_bestBundle_4 : decode cX11_bestBundle 4 = .ok (.getfield 108, 3) := by decide +kernel
theorem dX11_bestBundle_7 : decode cX11_bestBundle 7 = .ok (.invokevirtual 111, 3) := by decide +kernel
theorem dX11_bestBundle_10 : decode cX11_bestBundle 10 = .ok (.istore_n 3, 1) := by decide +kernel
theorem dX11_bestBundle_11 : decode cX11_bestBundle 11 = .ok (.iconst 0, 1) := by decide +kernel
theorem dX11_bestBundle_12 : decode cX11_bestBundle 12 = .ok (.istore 4, 2) := by decide +kernel
theorem dX11_bestBundle_14 : decode cX11_bestBundle 14 = .ok (.iconst 1, 1) := by decide +kernel
theorem dX11_bestBundle_15 : decode cX11_bestBundle 15 = .ok (.istore 5, 2) := by decide +kernel
theorem dX11_bestBundle_17 : decode cX11_bestBundle 17 = .ok (.iload 5, 2) := by decide +kernel
theorem dX11_bestBundle_19 : decode cX11_bestBundle 19 = .ok (.sipush 255, 3) := by decide +kernel
theorem dX11_bestBundle_22 : decode cX11_bestBundle 22 = .ok (.if_icmp .gt 69, 3) := by decide +kernel
theorem dX11_bestBundle_25 : decode cX11_bestBundle 25 = .ok (.iload 5, 2) := by decide +kernel
theorem dX11_bestBundle_27 : decode cX11_bestBundle 27 = .ok (.iload_n 3, 1) := by decide +kernel
theorem dX11_bestBundle_28 : decode cX11_bestBundle 28 = .ok (.iconst (-1), 1) := by decide +kernel
theorem dX11_bestBundle_29 : decode cX11_bestBundle 29 = .ok (.ixor, 1) := by decide +kernel
theorem dX11_bestBundle_30 : decode cX11_bestBundle 30 = .ok (.iand, 1) := by decide +kernel
theorem dX11_bestBundle_31 : decode cX11_bestBundle 31 = .ok (.ifCond .ne 54, 3) := by decide +kernel
theorem dX11_bestBundle_34 : decode cX11_bestBundle 34 = .ok (.iload 5, 2) := by decide +kernel
theorem dX11_bestBundle_36 : decode cX11_bestBundle 36 = .ok (.invokestatic 192, 3) := by decide +kernel
theorem dX11_bestBundle_39 : decode cX11_bestBundle 39 = .ok (.iload 4, 2) := by decide +kernel
theorem dX11_bestBundle_41 : decode cX11_bestBundle 41 = .ok (.invokestatic 192, 3) := by decide +kernel
theorem dX11_bestBundle_44 : decode cX11_bestBundle 44 = .ok (.if_icmp .le 41, 3) := by decide +kernel
theorem dX11_bestBundle_47 : decode cX11_bestBundle 47 = .ok (.aload_n 0, 1) := by decide +kernel
theorem dX11_bestBundle_48 : decode cX11_bestBundle 48 = .ok (.aload_n 0, 1) := by decide +kernel
theorem dX11_bestBundle_49 : decode cX11_bestBundle 49 = .ok (.getfield 34, 3) := by decide +kernel
theorem dX11_bestBundle_52 : decode cX11_bestBundle 52 = .ok (.getfield 108, 3) := by decide +kernel
theorem dX11_bestBundle_55 : decode cX11_bestBundle 55 = .ok (.iload 5, 2) := by decide +kernel
theorem dX11_bestBundle_57 : decode cX11_bestBundle 57 = .ok (.invokevirtual 182, 3) := by decide +kernel
theorem dX11_bestBundle_60 : decode cX11_bestBundle 60 = .ok (.iload_n 2, 1) := by decide +kernel
theorem dX11_bestBundle_61 : decode cX11_bestBundle 61 = .ok (.iconst (-1), 1) := by decide +kernel
theorem dX11_bestBundle_62 : decode cX11_bestBundle 62 = .ok (.ixor, 1) := by decide +kernel
theorem dX11_bestBundle_63 : decode cX11_bestBundle 63 = .ok (.iand, 1) := by decide +kernel
theorem dX11_bestBundle_64 : decode cX11_bestBundle 64 = .ok (.istore 6, 2) := by decide +kernel
theorem dX11_bestBundle_66 : decode cX11_bestBundle 66 = .ok (.iload 6, 2) := by decide +kernel
theorem dX11_bestBundle_68 : decode cX11_bestBundle 68 = .ok (.ifCond .eq 13, 3) := by decide +kernel
theorem dX11_bestBundle_71 : decode cX11_bestBundle 71 = .ok (.aload_n 0, 1) := by decide +kernel
theorem dX11_bestBundle_72 : decode cX11_bestBundle 72 = .ok (.iload 6, 2) := by decide +kernel
theorem dX11_bestBundle_74 : decode cX11_bestBundle 74 = .ok (.invokevirtual 189, 3) := by decide +kernel
theorem dX11_bestBundle_77 : decode cX11_bestBundle 77 = .ok (.iload_n 1, 1) := by decide +kernel
theorem dX11_bestBundle_78 : decode cX11_bestBundle 78 = .ok (.if_icmp .gt 7, 3) := by decide +kernel
theorem dX11_bestBundle_81 : decode cX11_bestBundle 81 = .ok (.iload 5, 2) := by decide +kernel
theorem dX11_bestBundle_83 : decode cX11_bestBundle 83 = .ok (.istore 4, 2) := by decide +kernel
theorem dX11_bestBundle_85 : decode cX11_bestBundle 85 = .ok (.iinc 5 1, 3) := by decide +kernel
theorem dX11_bestBundle_88 : decode cX11_bestBundle 88 = .ok (.goto (-71), 3) := by decide +kernel
theorem dX11_bestBundle_91 : decode cX11_bestBundle 91 = .ok (.iload 4, 2) := by decide +kernel
theorem dX11_bestBundle_93 : decode cX11_bestBundle 93 = .ok (.ireturn, 1) := by decide +kernel
theorem dX11_stoppedBetween_0 : decode cX11_stoppedBetween 0 = .ok (.iload 4, 2) := by decide +kernel
theorem dX11_stoppedBetween_2 : decode cX11_stoppedBetween 2 = .ok (.invokestatic 135, 3) := by decide +kernel
theorem dX11_stoppedBetween_5 : decode cX11_stoppedBetween 5 = .ok (.aload_n 0, 1) := by decide +kernel
theorem dX11_stoppedBetween_6 : decode cX11_stoppedBetween 6 = .ok (.getfield 34, 3) := by decide +kernel
theorem dX11_stoppedBetween_9 : decode cX11_stoppedBetween 9 = .ok (.getfield 108, 3) := by decide +kernel
theorem dX11_stoppedBetween_12 : decode cX11_stoppedBetween 12 = .ok (.getfield 145, 3) := by decide +kernel
theorem dX11_stoppedBetween_15 : decode cX11_stoppedBetween 15 = .ok (.iconst (-1), 1) := by decide +kernel
theorem dX11_stoppedBetween_16 : decode cX11_stoppedBetween 16 = .ok (.ixor, 1) := by decide +kernel
theorem dX11_stoppedBetween_17 : decode cX11_stoppedBetween 17 = .ok (.iand, 1) := by decide +kernel
theorem dX11_stoppedBetween_18 : decode cX11_stoppedBetween 18 = .ok (.istore 5, 2) := by decide +kernel
theorem dX11_stoppedBetween_20 : decode cX11_stoppedBetween 20 = .ok (.iload_n 1, 1) := by decide +kernel
theorem dX11_stoppedBetween_21 : decode cX11_stoppedBetween 21 = .ok (.ifCond .eq 21, 3) := by decide +kernel
theorem dX11_stoppedBetween_24 : decode cX11_stoppedBetween 24 = .ok (.iload_n 2, 1) := by decide +kernel
theorem dX11_stoppedBetween_25 : decode cX11_stoppedBetween 25 = .ok (.iload 5, 2) := by decide +kernel
theorem dX11_stoppedBetween_27 : decode cX11_stoppedBetween 27 = .ok (.ior, 1) := by decide +kernel
theorem dX11_stoppedBetween_28 : decode cX11_stoppedBetween 28 = .ok (.iload_n 3, 1) := by decide +kernel
theorem dX11_stoppedBetween_29 : decode cX11_stoppedBetween 29 = .ok (.invokestatic 135, 3) := by decide +kernel
theorem dX11_stoppedBetween_32 : decode cX11_stoppedBetween 32 = .ok (.iconst (-1), 1) := by decide +kernel
theorem dX11_stoppedBetween_33 : decode cX11_stoppedBetween 33 = .ok (.ixor, 1) := by decide +kernel
theorem dX11_stoppedBetween_34 : decode cX11_stoppedBetween 34 = .ok (.iand, 1) := by decide +kernel
theorem dX11_stoppedBetween_35 : decode cX11_stoppedBetween 35 = .ok (.ifCond .eq 7, 3) := by decide +kernel
theorem dX11_stoppedBetween_38 : decode cX11_stoppedBetween 38 = .ok (.iconst 1, 1) := by decide +kernel
theorem dX11_stoppedBetween_39 : decode cX11_stoppedBetween 39 = .ok (.goto 4, 3) := by decide +kernel
theorem dX11_stoppedBetween_42 : decode cX11_stoppedBetween 42 = .ok (.iconst 0, 1) := by decide +kernel
theorem dX11_stoppedBetween_43 : decode cX11_stoppedBetween 43 = .ok (.ireturn, 1) := by decide +kernel
theorem dX11_pairRests_0 : decode cX11_pairRests 0 = .ok (.aload_n 0, 1) := by decide +kernel
theorem dX11_pairRests_1 : decode cX11_pairRests 1 = .ok (.iload_n 1, 1) := by decide +kernel
theorem dX11_pairRests_2 : decode cX11_pairRests 2 = .ok (.iload_n 2, 1) := by decide +kernel
theorem dX11_pairRests_3 : decode cX11_pairRests 3 = .ok (.iload_n 3, 1) := by decide +kernel
theorem dX11_pairRests_4 : decode cX11_pairRests 4 = .ok (.iload 4, 2) := by decide +kernel
theorem dX11_pairRests_6 : decode cX11_pairRests 6 = .ok (.invokevirtual 280, 3) := by decide +kernel
theorem dX11_pairRests_9 : decode cX11_pairRests 9 = .ok (.istore 5, 2) := by decide +kernel
theorem dX11_pairRests_11 : decode cX11_pairRests 11 = .ok (.iconst (-1), 1) := by decide +kernel
theorem dX11_pairRests_12 : decode cX11_pairRests 12 = .ok (.istore 6, 2) := by decide +kernel
theorem dX11_pairRests_14 : decode cX11_pairRests 14 = .ok (.iload 6, 2) := by decide +kernel
theorem dX11_pairRests_16 : decode cX11_pairRests 16 = .ok (.aload_n 0, 1) := by decide +kernel
theorem dX11_pairRests_17 : decode cX11_pairRests 17 = .ok (.getfield 34, 3) := by decide +kernel
theorem dX11_pairRests_20 : decode cX11_pairRests 20 = .ok (.getfield 78, 3) := by decide +kernel
theorem dX11_pairRests_23 : decode cX11_pairRests 23 = .ok (.if_icmp .ge 47, 3) := by decide +kernel
theorem dX11_pairRests_26 : decode cX11_pairRests 26 = .ok (.iload 5, 2) := by decide +kernel
theorem dX11_pairRests_28 : decode cX11_pairRests 28 = .ok (.ifCond .eq 16, 3) := by decide +kernel
theorem dX11_pairRests_31 : decode cX11_pairRests 31 = .ok (.aload_n 0, 1) := by decide +kernel
theorem dX11_pairRests_32 : decode cX11_pairRests 32 = .ok (.iload_n 1, 1) := by decide +kernel
theorem dX11_pairRests_33 : decode cX11_pairRests 33 = .ok (.iload_n 2, 1) := by decide +kernel
theorem dX11_pairRests_34 : decode cX11_pairRests 34 = .ok (.iload 6, 2) := by decide +kernel
theorem dX11_pairRests_36 : decode cX11_pairRests 36 = .ok (.iload 4, 2) := by decide +kernel
theorem dX11_pairRests_38 : decode cX11_pairRests 38 = .ok (.invokevirtual 280, 3) := by decide +kernel
theorem dX11_pairRests_41 : decode cX11_pairRests 41 = .ok (.goto 12, 3) := by decide +kernel
theorem dX11_pairRests_44 : decode cX11_pairRests 44 = .ok (.aload_n 0, 1) := by decide +kernel
theorem dX11_pairRests_45 : decode cX11_pairRests 45 = .ok (.iload_n 1, 1) := by decide +kernel
theorem dX11_pairRests_46 : decode cX11_pairRests 46 = .ok (.iload_n 2, 1) := by decide +kernel
theorem dX11_pairRests_47 : decode cX11_pairRests 47 = .ok (.iload_n 3, 1) := by decide +kernel
theorem dX11_pairRests_48 : decode cX11_pairRests 48 = .ok (.iload 6, 2) := by decide +kernel
theorem dX11_pairRests_50 : decode cX11_pairRests 50 = .ok (.invokevirtual 280, 3) := by decide +kernel
theorem dX11_pairRests_53 : decode cX11_pairRests 53 = .ok (.istore 7, 2) := by decide +kernel
theorem dX11_pairRests_55 : decode cX11_pairRests 55 = .ok (.iload 7, 2) := by decide +kernel
theorem dX11_pairRests_57 : decode cX11_pairRests 57 = .ok (.iload 5, 2) := by decide +kernel
theorem dX11_pairRests_59 : decode cX11_pairRests 59 = .ok (.if_icmp .eq 5, 3) := by decide +kernel
theorem dX11_pairRests_62 : decode cX11_pairRests 62 = .ok (.iconst 0, 1) := by decide +kernel
theorem dX11_pairRests_63 : decode cX11_pairRests 63 = .ok (.ireturn, 1) := by decide +kernel
theorem dX11_pairRests_64 : decode cX11_pairRests 64 = .ok (.iinc 6 1, 3) := by decide +kernel
theorem dX11_pairRests_67 : decode cX11_pairRests 67 = .ok (.goto (-53), 3) := by decide +kernel
theorem dX11_pairRests_70 : decode cX11_pairRests 70 = .ok (.iconst 1, 1) := by decide +kernel
theorem dX11_pairRests_71 : decode cX11_pairRests 71 = .ok (.ireturn, 1) := by decide +kernel
theorem dX11_notesFit_0 : decode cX11_notesFit 0 = .ok (.iconst 0, 1) := by decide +kernel
theorem dX11_notesFit_1 : decode cX11_notesFit 1 = .ok (.istore 5, 2) := by decide +kernel
theorem dX11_notesFit_3 : decode cX11_notesFit 3 = .ok (.iload 5, 2) := by decide +kernel
theorem dX11_notesFit_5 : decode cX11_notesFit 5 = .ok (.aload_n 0, 1) := by decide +kernel
theorem dX11_notesFit_6 : decode cX11_notesFit 6 = .ok (.getfield 34, 3) := by decide +kernel
theorem dX11_notesFit_9 : decode cX11_notesFit 9 = .ok (.getfield 204, 3) := by decide +kernel
theorem dX11_notesFit_12 : decode cX11_notesFit 12 = .ok (.if_icmp .ge 71, 3) := by decide +kernel
theorem dX11_notesFit_15 : decode cX11_notesFit 15 = .ok (.aload_n 0, 1) := by decide +kernel
theorem dX11_notesFit_16 : decode cX11_notesFit 16 = .ok (.getfield 34, 3) := by decide +kernel
theorem dX11_notesFit_19 : decode cX11_notesFit 19 = .ok (.iload 5, 2) := by decide +kernel
theorem dX11_notesFit_21 : decode cX11_notesFit 21 = .ok (.invokevirtual 283, 3) := by decide +kernel
theorem dX11_notesFit_24 : decode cX11_notesFit 24 = .ok (.astore 6, 2) := by decide +kernel
theorem dX11_notesFit_26 : decode cX11_notesFit 26 = .ok (.aload 6, 2) := by decide +kernel
theorem dX11_notesFit_28 : decode cX11_notesFit 28 = .ok (.ifnull 49, 3) := by decide +kernel
theorem dX11_notesFit_31 : decode cX11_notesFit 31 = .ok (.aload 6, 2) := by decide +kernel
theorem dX11_notesFit_33 : decode cX11_notesFit 33 = .ok (.getfield 287, 3) := by decide +kernel
theorem dX11_notesFit_36 : decode cX11_notesFit 36 = .ok (.iload_n 1, 1) := by decide +kernel
theorem dX11_notesFit_37 : decode cX11_notesFit 37 = .ok (.if_icmp .ne 40, 3) := by decide +kernel
theorem dX11_notesFit_40 : decode cX11_notesFit 40 = .ok (.aload_n 0, 1) := by decide +kernel
theorem dX11_notesFit_41 : decode cX11_notesFit 41 = .ok (.iload_n 2, 1) := by decide +kernel
theorem dX11_notesFit_42 : decode cX11_notesFit 42 = .ok (.iload_n 3, 1) := by decide +kernel
theorem dX11_notesFit_43 : decode cX11_notesFit 43 = .ok (.iload 4, 2) := by decide +kernel
theorem dX11_notesFit_45 : decode cX11_notesFit 45 = .ok (.aload 6, 2) := by decide +kernel
theorem dX11_notesFit_47 : decode cX11_notesFit 47 = .ok (.getfield 292, 3) := by decide +kernel
theorem dX11_notesFit_50 : decode cX11_notesFit 50 = .ok (.aload 6, 2) := by decide +kernel
theorem dX11_notesFit_52 : decode cX11_notesFit 52 = .ok (.getfield 295, 3) := by decide +kernel
theorem dX11_notesFit_55 : decode cX11_notesFit 55 = .ok (.invokevirtual 276, 3) := by decide +kernel
theorem dX11_notesFit_58 : decode cX11_notesFit 58 = .ok (.aload 6, 2) := by decide +kernel
theorem dX11_notesFit_60 : decode cX11_notesFit 60 = .ok (.getfield 296, 3) := by decide +kernel
theorem dX11_notesFit_63 : decode cX11_notesFit 63 = .ok (.iconst 1, 1) := by decide +kernel
theorem dX11_notesFit_64 : decode cX11_notesFit 64 = .ok (.if_icmp .ne 7, 3) := by decide +kernel
theorem dX11_notesFit_67 : decode cX11_notesFit 67 = .ok (.iconst 1, 1) := by decide +kernel
theorem dX11_notesFit_68 : decode cX11_notesFit 68 = .ok (.goto 4, 3) := by decide +kernel
theorem dX11_notesFit_71 : decode cX11_notesFit 71 = .ok (.iconst 0, 1) := by decide +kernel
theorem dX11_notesFit_72 : decode cX11_notesFit 72 = .ok (.if_icmp .eq 5, 3) := by decide +kernel
theorem dX11_notesFit_75 : decode cX11_notesFit 75 = .ok (.iconst 0, 1) := by decide +kernel
theorem dX11_notesFit_76 : decode cX11_notesFit 76 = .ok (.ireturn, 1) := by decide +kernel
theorem dX11_notesFit_77 : decode cX11_notesFit 77 = .ok (.iinc 5 1, 3) := by decide +kernel
theorem dX11_notesFit_80 : decode cX11_notesFit 80 = .ok (.goto (-77), 3) := by decide +kernel
theorem dX11_notesFit_83 : decode cX11_notesFit 83 = .ok (.iconst 1, 1) := by decide +kernel
theorem dX11_notesFit_84 : decode cX11_notesFit 84 = .ok (.ireturn, 1) := by decide +kernel
theorem dX11_kindsThatFit_0 : decode cX11_kindsThatFit 0 = .ok (.iconst 0, 1) := by decide +kernel
theorem dX11_kindsThatFit_1 : decode cX11_kindsThatFit 1 = .ok (.istore_n 3, 1) := by decide +kernel
theorem dX11_kindsThatFit_2 : decode cX11_kindsThatFit 2 = .ok (.iconst 0, 1) := by decide +kernel
theorem dX11_kindsThatFit_3 : decode cX11_kindsThatFit 3 = .ok (.istore 4, 2) := by decide +kernel
theorem dX11_kindsThatFit_5 : decode cX11_kindsThatFit 5 = .ok (.iload 4, 2) := by decide +kernel
theorem dX11_kindsThatFit_7 : decode cX11_kindsThatFit 7 = .ok (.bipush 6, 2) := by decide +kernel
theorem dX11_kindsThatFit_9 : decode cX11_kindsThatFit 9 = .ok (.if_icmp .ge 35, 3) := by decide +kernel
theorem dX11_kindsThatFit_12 : decode cX11_kindsThatFit 12 = .ok (.aload_n 0, 1) := by decide +kernel
theorem dX11_kindsThatFit_13 : decode cX11_kindsThatFit 13 = .ok (.iload_n 1, 1) := by decide +kernel
theorem dX11_kindsThatFit_14 : decode cX11_kindsThatFit 14 = .ok (.iload 4, 2) := by decide +kernel
theorem dX11_kindsThatFit_16 : decode cX11_kindsThatFit 16 = .ok (.aload_n 2, 1) := by decide +kernel
theorem dX11_kindsThatFit_17 : decode cX11_kindsThatFit 17 = .ok (.getfield 162, 3) := by decide +kernel
theorem dX11_kindsThatFit_20 : decode cX11_kindsThatFit 20 = .ok (.aload_n 2, 1) := by decide +kernel
theorem dX11_kindsThatFit_21 : decode cX11_kindsThatFit 21 = .ok (.getfield 165, 3) := by decide +kernel
theorem dX11_kindsThatFit_24 : decode cX11_kindsThatFit 24 = .ok (.invokevirtual 214, 3) := by decide +kernel
theorem dX11_kindsThatFit_27 : decode cX11_kindsThatFit 27 = .ok (.ifCond .eq 11, 3) := by decide +kernel
theorem dX11_kindsThatFit_30 : decode cX11_kindsThatFit 30 = .ok (.iload_n 3, 1) := by decide +kernel
theorem dX11_kindsThatFit_31 : decode cX11_kindsThatFit 31 = .ok (.iload 4, 2) := by decide +kernel
theorem dX11_kindsThatFit_33 : decode cX11_kindsThatFit 33 = .ok (.invokestatic 135, 3) := by decide +kernel
theorem dX11_kindsThatFit_36 : decode cX11_kindsThatFit 36 = .ok (.ior, 1) := by decide +kernel
theorem dX11_kindsThatFit_37 : decode cX11_kindsThatFit 37 = .ok (.istore_n 3, 1) := by decide +kernel
theorem dX11_kindsThatFit_38 : decode cX11_kindsThatFit 38 = .ok (.iinc 4 1, 3) := by decide +kernel
theorem dX11_kindsThatFit_41 : decode cX11_kindsThatFit 41 = .ok (.goto (-36), 3) := by decide +kernel
theorem dX11_kindsThatFit_44 : decode cX11_kindsThatFit 44 = .ok (.iload_n 3, 1) := by decide +kernel
theorem dX11_kindsThatFit_45 : decode cX11_kindsThatFit 45 = .ok (.ireturn, 1) := by decide +kernel
theorem dX11_kindsThatStop_0 : decode cX11_kindsThatStop 0 = .ok (.iconst 0, 1) := by decide +kernel
theorem dX11_kindsThatStop_1 : decode cX11_kindsThatStop 1 = .ok (.istore_n 3, 1) := by decide +kernel
theorem dX11_kindsThatStop_2 : decode cX11_kindsThatStop 2 = .ok (.iconst 0, 1) := by decide +kernel
theorem dX11_kindsThatStop_3 : decode cX11_kindsThatStop 3 = .ok (.istore 4, 2) := by decide +kernel
theorem dX11_kindsThatStop_5 : decode cX11_kindsThatStop 5 = .ok (.iload 4, 2) := by decide +kernel
theorem dX11_kindsThatStop_7 : decode cX11_kindsThatStop 7 = .ok (.bipush 6, 2) := by decide +kernel
theorem dX11_kindsThatStop_9 : decode cX11_kindsThatStop 9 = .ok (.if_icmp .ge 45, 3) := by decide +kernel
theorem dX11_kindsThatStop_12 : decode cX11_kindsThatStop 12 = .ok (.aload_n 0, 1) := by decide +kernel
theorem dX11_kindsThatStop_13 : decode cX11_kindsThatStop 13 = .ok (.iload 4, 2) := by decide +kernel
theorem dX11_kindsThatStop_15 : decode cX11_kindsThatStop 15 = .ok (.aload_n 1, 1) := by decide +kernel
theorem dX11_kindsThatStop_16 : decode cX11_kindsThatStop 16 = .ok (.getfield 162, 3) := by decide +kernel
theorem dX11_kindsThatStop_19 : decode cX11_kindsThatStop 19 = .ok (.aload_n 1, 1) := by decide +kernel
theorem dX11_kindsThatStop_20 : decode cX11_kindsThatStop 20 = .ok (.getfield 165, 3) := by decide +kernel
theorem dX11_kindsThatStop_23 : decode cX11_kindsThatStop 23 = .ok (.iload_n 2, 1) := by decide +kernel
theorem dX11_kindsThatStop_24 : decode cX11_kindsThatStop 24 = .ok (.aload_n 0, 1) := by decide +kernel
theorem dX11_kindsThatStop_25 : decode cX11_kindsThatStop 25 = .ok (.getfield 34, 3) := by decide +kernel
theorem dX11_kindsThatStop_28 : decode cX11_kindsThatStop 28 = .ok (.getfield 108, 3) := by decide +kernel
theorem dX11_kindsThatStop_31 : decode cX11_kindsThatStop 31 = .ok (.getfield 154, 3) := by decide +kernel
theorem dX11_kindsThatStop_34 : decode cX11_kindsThatStop 34 = .ok (.invokevirtual 276, 3) := by decide +kernel
theorem dX11_kindsThatStop_37 : decode cX11_kindsThatStop 37 = .ok (.ifCond .eq 11, 3) := by decide +kernel
theorem dX11_kindsThatStop_40 : decode cX11_kindsThatStop 40 = .ok (.iload_n 3, 1) := by decide +kernel
theorem dX11_kindsThatStop_41 : decode cX11_kindsThatStop 41 = .ok (.iload 4, 2) := by decide +kernel
theorem dX11_kindsThatStop_43 : decode cX11_kindsThatStop 43 = .ok (.invokestatic 135, 3) := by decide +kernel
theorem dX11_kindsThatStop_46 : decode cX11_kindsThatStop 46 = .ok (.ior, 1) := by decide +kernel
theorem dX11_kindsThatStop_47 : decode cX11_kindsThatStop 47 = .ok (.istore_n 3, 1) := by decide +kernel
theorem dX11_kindsThatStop_48 : decode cX11_kindsThatStop 48 = .ok (.iinc 4 1, 3) := by decide +kernel
theorem dX11_kindsThatStop_51 : decode cX11_kindsThatStop 51 = .ok (.goto (-46), 3) := by decide +kernel
theorem dX11_kindsThatStop_54 : decode cX11_kindsThatStop 54 = .ok (.iload_n 3, 1) := by decide +kernel
theorem dX11_kindsThatStop_55 : decode cX11_kindsThatStop 55 = .ok (.ireturn, 1) := by decide +kernel
theorem dX11_howMany_0 : decode cX11_howMany 0 = .ok (.iload_n 1, 1) := by decide +kernel
theorem dX11_howMany_1 : decode cX11_howMany 1 = .ok (.tableswitch 117 0 6 #[43, 51, 62, 76, 90, 101, 109], 43) := by decide +kernel
theorem dX11_howMany_44 : decode cX11_howMany 44 = .ok (.aload_n 0, 1) := by decide +kernel
theorem dX11_howMany_45 : decode cX11_howMany 45 = .ok (.getfield 34, 3) := by decide +kernel
theorem dX11_howMany_48 : decode cX11_howMany 48 = .ok (.getfield 78, 3) := by decide +kernel
theorem dX11_howMany_51 : decode cX11_howMany 51 = .ok (.ireturn, 1) := by decide +kernel
theorem dX11_howMany_52 : decode cX11_howMany 52 = .ok (.aload_n 0, 1) := by decide +kernel
theorem dX11_howMany_53 : decode cX11_howMany 53 = .ok (.getfield 34, 3) := by decide +kernel
theorem dX11_howMany_56 : decode cX11_howMany 56 = .ok (.getfield 108, 3) := by decide +kernel
theorem dX11_howMany_59 : decode cX11_howMany 59 = .ok (.getfield 154, 3) := by decide +kernel
theorem dX11_howMany_62 : decode cX11_howMany 62 = .ok (.ireturn, 1) := by decide +kernel
theorem dX11_howMany_63 : decode cX11_howMany 63 = .ok (.aload_n 0, 1) := by decide +kernel
theorem dX11_howMany_64 : decode cX11_howMany 64 = .ok (.getfield 34, 3) := by decide +kernel
theorem dX11_howMany_67 : decode cX11_howMany 67 = .ok (.getfield 108, 3) := by decide +kernel
theorem dX11_howMany_70 : decode cX11_howMany 70 = .ok (.getfield 125, 3) := by decide +kernel
theorem dX11_howMany_73 : decode cX11_howMany 73 = .ok (.invokestatic 192, 3) := by decide +kernel
theorem dX11_howMany_76 : decode cX11_howMany 76 = .ok (.ireturn, 1) := by decide +kernel
theorem dX11_howMany_77 : decode cX11_howMany 77 = .ok (.aload_n 0, 1) := by decide +kernel
theorem dX11_howMany_78 : decode cX11_howMany 78 = .ok (.getfield 34, 3) := by decide +kernel
theorem dX11_howMany_81 : decode cX11_howMany 81 = .ok (.getfield 108, 3) := by decide +kernel
theorem dX11_howMany_84 : decode cX11_howMany 84 = .ok (.getfield 179, 3) := by decide +kernel
theorem dX11_howMany_87 : decode cX11_howMany 87 = .ok (.invokestatic 192, 3) := by decide +kernel
theorem dX11_howMany_90 : decode cX11_howMany 90 = .ok (.ireturn, 1) := by decide +kernel
theorem dX11_howMany_91 : decode cX11_howMany 91 = .ok (.aload_n 0, 1) := by decide +kernel
theorem dX11_howMany_92 : decode cX11_howMany 92 = .ok (.getfield 34, 3) := by decide +kernel
theorem dX11_howMany_95 : decode cX11_howMany 95 = .ok (.getfield 108, 3) := by decide +kernel
theorem dX11_howMany_98 : decode cX11_howMany 98 = .ok (.getfield 142, 3) := by decide +kernel
theorem dX11_howMany_101 : decode cX11_howMany 101 = .ok (.ireturn, 1) := by decide +kernel
theorem dX11_howMany_102 : decode cX11_howMany 102 = .ok (.aload_n 0, 1) := by decide +kernel
theorem dX11_howMany_103 : decode cX11_howMany 103 = .ok (.getfield 34, 3) := by decide +kernel
theorem dX11_howMany_106 : decode cX11_howMany 106 = .ok (.getfield 204, 3) := by decide +kernel
theorem dX11_howMany_109 : decode cX11_howMany 109 = .ok (.ireturn, 1) := by decide +kernel
theorem dX11_howMany_110 : decode cX11_howMany 110 = .ok (.aload_n 0, 1) := by decide +kernel
theorem dX11_howMany_111 : decode cX11_howMany 111 = .ok (.getfield 34, 3) := by decide +kernel
theorem dX11_howMany_114 : decode cX11_howMany 114 = .ok (.getfield 148, 3) := by decide +kernel
theorem dX11_howMany_117 : decode cX11_howMany 117 = .ok (.ireturn, 1) := by decide +kernel
theorem dX11_howMany_118 : decode cX11_howMany 118 = .ok (.aload_n 0, 1) := by decide +kernel
theorem dX11_howMany_119 : decode cX11_howMany 119 = .ok (.getfield 59, 3) := by decide +kernel
theorem dX11_howMany_122 : decode cX11_howMany 122 = .ok (.getfield 94, 3) := by decide +kernel
theorem dX11_howMany_125 : decode cX11_howMany 125 = .ok (.ireturn, 1) := by decide +kernel
theorem dX11_deputyIntoDigest_0 : decode cX11_deputyIntoDigest 0 = .ok (.aload_n 0, 1) := by decide +kernel
theorem dX11_deputyIntoDigest_1 : decode cX11_deputyIntoDigest 1 = .ok (.getfield 34, 3) := by decide +kernel
theorem dX11_deputyIntoDigest_4 : decode cX11_deputyIntoDigest 4 = .ok (.iload_n 3, 1) := by decide +kernel
theorem dX11_deputyIntoDigest_5 : decode cX11_deputyIntoDigest 5 = .ok (.invokevirtual 128, 3) := by decide +kernel
theorem dX11_deputyIntoDigest_8 : decode cX11_deputyIntoDigest 8 = .ok (.astore 4, 2) := by decide +kernel
theorem dX11_deputyIntoDigest_10 : decode cX11_deputyIntoDigest 10 = .ok (.aload 4, 2) := by decide +kernel
theorem dX11_deputyIntoDigest_12 : decode cX11_deputyIntoDigest 12 = .ok (.ifnonnull 5, 3) := by decide +kernel
theorem dX11_deputyIntoDigest_15 : decode cX11_deputyIntoDigest 15 = .ok (.lload_n 1, 1) := by decide +kernel
theorem dX11_deputyIntoDigest_16 : decode cX11_deputyIntoDigest 16 = .ok (.lreturn, 1) := by decide +kernel
theorem dX11_deputyIntoDigest_17 : decode cX11_deputyIntoDigest 17 = .ok (.ldc2_w 253, 3) := by decide +kernel
theorem dX11_deputyIntoDigest_20 : decode cX11_deputyIntoDigest 20 = .ok (.lload_n 1, 1) := by decide +kernel
theorem dX11_deputyIntoDigest_21 : decode cX11_deputyIntoDigest 21 = .ok (.lmul, 1) := by decide +kernel
theorem dX11_deputyIntoDigest_22 : decode cX11_deputyIntoDigest 22 = .ok (.aload 4, 2) := by decide +kernel
theorem dX11_deputyIntoDigest_24 : decode cX11_deputyIntoDigest 24 = .ok (.getfield 157, 3) := by decide +kernel
theorem dX11_deputyIntoDigest_27 : decode cX11_deputyIntoDigest 27 = .ok (.i2l, 1) := by decide +kernel
theorem dX11_deputyIntoDigest_28 : decode cX11_deputyIntoDigest 28 = .ok (.ladd, 1) := by decide +kernel
theorem dX11_deputyIntoDigest_29 : decode cX11_deputyIntoDigest 29 = .ok (.lstore 5, 2) := by decide +kernel
theorem dX11_deputyIntoDigest_31 : decode cX11_deputyIntoDigest 31 = .ok (.ldc2_w 253, 3) := by decide +kernel
theorem dX11_deputyIntoDigest_34 : decode cX11_deputyIntoDigest 34 = .ok (.lload 5, 2) := by decide +kernel
theorem dX11_deputyIntoDigest_36 : decode cX11_deputyIntoDigest 36 = .ok (.lmul, 1) := by decide +kernel
theorem dX11_deputyIntoDigest_37 : decode cX11_deputyIntoDigest 37 = .ok (.aload 4, 2) := by decide +kernel
theorem dX11_deputyIntoDigest_39 : decode cX11_deputyIntoDigest 39 = .ok (.getfield 162, 3) := by decide +kernel
theorem dX11_deputyIntoDigest_42 : decode cX11_deputyIntoDigest 42 = .ok (.i2l, 1) := by decide +kernel
theorem dX11_deputyIntoDigest_43 : decode cX11_deputyIntoDigest 43 = .ok (.ladd, 1) := by decide +kernel
theorem dX11_deputyIntoDigest_44 : decode cX11_deputyIntoDigest 44 = .ok (.lstore 5, 2) := by decide +kernel
theorem dX11_deputyIntoDigest_46 : decode cX11_deputyIntoDigest 46 = .ok (.ldc2_w 253, 3) := by decide +kernel
theorem dX11_deputyIntoDigest_49 : decode cX11_deputyIntoDigest 49 = .ok (.lload 5, 2) := by decide +kernel
theorem dX11_deputyIntoDigest_51 : decode cX11_deputyIntoDigest 51 = .ok (.lmul, 1) := by decide +kernel
theorem dX11_deputyIntoDigest_52 : decode cX11_deputyIntoDigest 52 = .ok (.aload 4, 2) := by decide +kernel
theorem dX11_deputyIntoDigest_54 : decode cX11_deputyIntoDigest 54 = .ok (.getfield 165, 3) := by decide +kernel
theorem dX11_deputyIntoDigest_57 : decode cX11_deputyIntoDigest 57 = .ok (.i2l, 1) := by decide +kernel
theorem dX11_deputyIntoDigest_58 : decode cX11_deputyIntoDigest 58 = .ok (.ladd, 1) := by decide +kernel
theorem dX11_deputyIntoDigest_59 : decode cX11_deputyIntoDigest 59 = .ok (.lstore 5, 2) := by decide +kernel
theorem dX11_deputyIntoDigest_61 : decode cX11_deputyIntoDigest 61 = .ok (.ldc2_w 253, 3) := by decide +kernel
theorem dX11_deputyIntoDigest_64 : decode cX11_deputyIntoDigest 64 = .ok (.lload 5, 2) := by decide +kernel
theorem dX11_deputyIntoDigest_66 : decode cX11_deputyIntoDigest 66 = .ok (.lmul, 1) := by decide +kernel
theorem dX11_deputyIntoDigest_67 : decode cX11_deputyIntoDigest 67 = .ok (.aload 4, 2) := by decide +kernel
theorem dX11_deputyIntoDigest_69 : decode cX11_deputyIntoDigest 69 = .ok (.getfield 168, 3) := by decide +kernel
theorem dX11_deputyIntoDigest_72 : decode cX11_deputyIntoDigest 72 = .ok (.i2l, 1) := by decide +kernel
theorem dX11_deputyIntoDigest_73 : decode cX11_deputyIntoDigest 73 = .ok (.ladd, 1) := by decide +kernel
theorem dX11_deputyIntoDigest_74 : decode cX11_deputyIntoDigest 74 = .ok (.lstore 5, 2) := by decide +kernel
theorem dX11_deputyIntoDigest_76 : decode cX11_deputyIntoDigest 76 = .ok (.ldc2_w 253, 3) := by decide +kernel
theorem dX11_deputyIntoDigest_79 : decode cX11_deputyIntoDigest 79 = .ok (.lload 5, 2) := by decide +kernel
theorem dX11_deputyIntoDigest_81 : decode cX11_deputyIntoDigest 81 = .ok (.lmul, 1) := by decide +kernel
theorem dX11_deputyIntoDigest_82 : decode cX11_deputyIntoDigest 82 = .ok (.aload_n 0, 1) := by decide +kernel
theorem dX11_deputyIntoDigest_83 : decode cX11_deputyIntoDigest 83 = .ok (.getfield 34, 3) := by decide +kernel
theorem dX11_deputyIntoDigest_86 : decode cX11_deputyIntoDigest 86 = .ok (.getfield 108, 3) := by decide +kernel
theorem dX11_deputyIntoDigest_89 : decode cX11_deputyIntoDigest 89 = .ok (.getfield 132, 3) := by decide +kernel
theorem dX11_deputyIntoDigest_92 : decode cX11_deputyIntoDigest 92 = .ok (.iload_n 3, 1) := by decide +kernel
theorem dX11_deputyIntoDigest_93 : decode cX11_deputyIntoDigest 93 = .ok (.invokestatic 135, 3) := by decide +kernel
theorem dX11_deputyIntoDigest_96 : decode cX11_deputyIntoDigest 96 = .ok (.iand, 1) := by decide +kernel
theorem dX11_deputyIntoDigest_97 : decode cX11_deputyIntoDigest 97 = .ok (.ifCond .eq 7, 3) := by decide +kernel
theorem dX11_deputyIntoDigest_100 : decode cX11_deputyIntoDigest 100 = .ok (.iconst 1, 1) := by decide +kernel
theorem dX11_deputyIntoDigest_101 : decode cX11_deputyIntoDigest 101 = .ok (.goto 4, 3) := by decide +kernel
theorem dX11_deputyIntoDigest_104 : decode cX11_deputyIntoDigest 104 = .ok (.iconst 0, 1) := by decide +kernel
theorem dX11_deputyIntoDigest_105 : decode cX11_deputyIntoDigest 105 = .ok (.invokestatic 171, 3) := by decide +kernel
theorem dX11_deputyIntoDigest_108 : decode cX11_deputyIntoDigest 108 = .ok (.i2l, 1) := by decide +kernel
theorem dX11_deputyIntoDigest_109 : decode cX11_deputyIntoDigest 109 = .ok (.ladd, 1) := by decide +kernel
theorem dX11_deputyIntoDigest_110 : decode cX11_deputyIntoDigest 110 = .ok (.lstore 5, 2) := by decide +kernel
theorem dX11_deputyIntoDigest_112 : decode cX11_deputyIntoDigest 112 = .ok (.ldc2_w 253, 3) := by decide +kernel
theorem dX11_deputyIntoDigest_115 : decode cX11_deputyIntoDigest 115 = .ok (.lload 5, 2) := by decide +kernel
theorem dX11_deputyIntoDigest_117 : decode cX11_deputyIntoDigest 117 = .ok (.lmul, 1) := by decide +kernel
theorem dX11_deputyIntoDigest_118 : decode cX11_deputyIntoDigest 118 = .ok (.aload_n 0, 1) := by decide +kernel
theorem dX11_deputyIntoDigest_119 : decode cX11_deputyIntoDigest 119 = .ok (.getfield 34, 3) := by decide +kernel
theorem dX11_deputyIntoDigest_122 : decode cX11_deputyIntoDigest 122 = .ok (.getfield 108, 3) := by decide +kernel
theorem dX11_deputyIntoDigest_125 : decode cX11_deputyIntoDigest 125 = .ok (.getfield 145, 3) := by decide +kernel
theorem dX11_deputyIntoDigest_128 : decode cX11_deputyIntoDigest 128 = .ok (.iload_n 3, 1) := by decide +kernel
theorem dX11_deputyIntoDigest_129 : decode cX11_deputyIntoDigest 129 = .ok (.invokestatic 135, 3) := by decide +kernel
theorem dX11_deputyIntoDigest_132 : decode cX11_deputyIntoDigest 132 = .ok (.iand, 1) := by decide +kernel
theorem dX11_deputyIntoDigest_133 : decode cX11_deputyIntoDigest 133 = .ok (.ifCond .eq 7, 3) := by decide +kernel
theorem dX11_deputyIntoDigest_136 : decode cX11_deputyIntoDigest 136 = .ok (.iconst 1, 1) := by decide +kernel
theorem dX11_deputyIntoDigest_137 : decode cX11_deputyIntoDigest 137 = .ok (.goto 4, 3) := by decide +kernel
theorem dX11_deputyIntoDigest_140 : decode cX11_deputyIntoDigest 140 = .ok (.iconst 0, 1) := by decide +kernel
theorem dX11_deputyIntoDigest_141 : decode cX11_deputyIntoDigest 141 = .ok (.invokestatic 171, 3) := by decide +kernel
theorem dX11_deputyIntoDigest_144 : decode cX11_deputyIntoDigest 144 = .ok (.i2l, 1) := by decide +kernel
theorem dX11_deputyIntoDigest_145 : decode cX11_deputyIntoDigest 145 = .ok (.ladd, 1) := by decide +kernel
theorem dX11_deputyIntoDigest_146 : decode cX11_deputyIntoDigest 146 = .ok (.lreturn, 1) := by decide +kernel
theorem dX11_noteIntoDigest_0 : decode cX11_noteIntoDigest 0 = .ok (.aload_n 0, 1) := by decide +kernel
theorem dX11_noteIntoDigest_1 : decode cX11_noteIntoDigest 1 = .ok (.getfield 34, 3) := by decide +kernel
theorem dX11_noteIntoDigest_4 : decode cX11_noteIntoDigest 4 = .ok (.iload_n 3, 1) := by decide +kernel
theorem dX11_noteIntoDigest_5 : decode cX11_noteIntoDigest 5 = .ok (.invokevirtual 283, 3) := by decide +kernel
theorem dX11_noteIntoDigest_8 : decode cX11_noteIntoDigest 8 = .ok (.astore 4, 2) := by decide +kernel
theorem dX11_noteIntoDigest_10 : decode cX11_noteIntoDigest 10 = .ok (.aload 4, 2) := by decide +kernel
theorem dX11_noteIntoDigest_12 : decode cX11_noteIntoDigest 12 = .ok (.ifnonnull 5, 3) := by decide +kernel
theorem dX11_noteIntoDigest_15 : decode cX11_noteIntoDigest 15 = .ok (.lload_n 1, 1) := by decide +kernel
theorem dX11_noteIntoDigest_16 : decode cX11_noteIntoDigest 16 = .ok (.lreturn, 1) := by decide +kernel
theorem dX11_noteIntoDigest_17 : decode cX11_noteIntoDigest 17 = .ok (.ldc2_w 253, 3) := by decide +kernel
theorem dX11_noteIntoDigest_20 : decode cX11_noteIntoDigest 20 = .ok (.lload_n 1, 1) := by decide +kernel
theorem dX11_noteIntoDigest_21 : decode cX11_noteIntoDigest 21 = .ok (.lmul, 1) := by decide +kernel
theorem dX11_noteIntoDigest_22 : decode cX11_noteIntoDigest 22 = .ok (.aload 4, 2) := by decide +kernel
theorem dX11_noteIntoDigest_24 : decode cX11_noteIntoDigest 24 = .ok (.getfield 287, 3) := by decide +kernel
theorem dX11_noteIntoDigest_27 : decode cX11_noteIntoDigest 27 = .ok (.i2l, 1) := by decide +kernel
theorem dX11_noteIntoDigest_28 : decode cX11_noteIntoDigest 28 = .ok (.ladd, 1) := by decide +kernel
theorem dX11_noteIntoDigest_29 : decode cX11_noteIntoDigest 29 = .ok (.lstore 5, 2) := by decide +kernel
theorem dX11_noteIntoDigest_31 : decode cX11_noteIntoDigest 31 = .ok (.ldc2_w 253, 3) := by decide +kernel
theorem dX11_noteIntoDigest_34 : decode cX11_noteIntoDigest 34 = .ok (.lload 5, 2) := by decide +kernel
theorem dX11_noteIntoDigest_36 : decode cX11_noteIntoDigest 36 = .ok (.lmul, 1) := by decide +kernel
theorem dX11_noteIntoDigest_37 : decode cX11_noteIntoDigest 37 = .ok (.aload 4, 2) := by decide +kernel
theorem dX11_noteIntoDigest_39 : decode cX11_noteIntoDigest 39 = .ok (.getfield 292, 3) := by decide +kernel
theorem dX11_noteIntoDigest_42 : decode cX11_noteIntoDigest 42 = .ok (.i2l, 1) := by decide +kernel
theorem dX11_noteIntoDigest_43 : decode cX11_noteIntoDigest 43 = .ok (.ladd, 1) := by decide +kernel
theorem dX11_noteIntoDigest_44 : decode cX11_noteIntoDigest 44 = .ok (.lstore 5, 2) := by decide +kernel
theorem dX11_noteIntoDigest_46 : decode cX11_noteIntoDigest 46 = .ok (.ldc2_w 253, 3) := by decide +kernel
theorem dX11_noteIntoDigest_49 : decode cX11_noteIntoDigest 49 = .ok (.lload 5, 2) := by decide +kernel
theorem dX11_noteIntoDigest_51 : decode cX11_noteIntoDigest 51 = .ok (.lmul, 1) := by decide +kernel
theorem dX11_noteIntoDigest_52 : decode cX11_noteIntoDigest 52 = .ok (.aload 4, 2) := by decide +kernel
theorem dX11_noteIntoDigest_54 : decode cX11_noteIntoDigest 54 = .ok (.getfield 295, 3) := by decide +kernel
theorem dX11_noteIntoDigest_57 : decode cX11_noteIntoDigest 57 = .ok (.i2l, 1) := by decide +kernel
theorem dX11_noteIntoDigest_58 : decode cX11_noteIntoDigest 58 = .ok (.ladd, 1) := by decide +kernel
theorem dX11_noteIntoDigest_59 : decode cX11_noteIntoDigest 59 = .ok (.lstore 5, 2) := by decide +kernel
theorem dX11_noteIntoDigest_61 : decode cX11_noteIntoDigest 61 = .ok (.ldc2_w 253, 3) := by decide +kernel
theorem dX11_noteIntoDigest_64 : decode cX11_noteIntoDigest 64 = .ok (.lload 5, 2) := by decide +kernel
theorem dX11_noteIntoDigest_66 : decode cX11_noteIntoDigest 66 = .ok (.lmul, 1) := by decide +kernel
theorem dX11_noteIntoDigest_67 : decode cX11_noteIntoDigest 67 = .ok (.aload 4, 2) := by decide +kernel
theorem dX11_noteIntoDigest_69 : decode cX11_noteIntoDigest 69 = .ok (.getfield 296, 3) := by decide +kernel
theorem dX11_noteIntoDigest_72 : decode cX11_noteIntoDigest 72 = .ok (.i2l, 1) := by decide +kernel
theorem dX11_noteIntoDigest_73 : decode cX11_noteIntoDigest 73 = .ok (.ladd, 1) := by decide +kernel
theorem dX11_noteIntoDigest_74 : decode cX11_noteIntoDigest 74 = .ok (.lreturn, 1) := by decide +kernel
