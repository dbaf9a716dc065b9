theorem dX12_lock_11 : decode cX12_lock 11 = .ok (.invokevirtual 61, 3) := by decide +kernel
theorem dX12_lock_14 : decode cX12_lock 14 = .ok (.ireturn, 1) := by decide +kernel
theorem dX12_lock_15 : decode cX12_lock 15 = .ok (.aload_n 0, 1) := by decide +kernel
theorem dX12_lock_16 : decode cX12_lock 16 = .ok (.getfield 7, 3) := by decide +kernel
theorem dX12_lock_19 : decode cX12_lock 19 = .ok (.iconst 4, 1) := by decide +kernel
theorem dX12_lock_20 : decode cX12_lock 20 = .ok (.iaload, 1) := by decide +kernel
theorem dX12_lock_21 : decode cX12_lock 21 = .ok (.ifCond .eq 8, 3) := by decide +kernel
theorem dX12_lock_24 : decode cX12_lock 24 = .ok (.aload_n 0, 1) := by decide +kernel
theorem dX12_lock_25 : decode cX12_lock 25 = .ok (.invokevirtual 107, 3) := by decide +kernel
theorem dX12_lock_28 : decode cX12_lock 28 = .ok (.ireturn, 1) := by decide +kernel
theorem dX12_lock_29 : decode cX12_lock 29 = .ok (.aload_n 0, 1) := by decide +kernel
theorem dX12_lock_30 : decode cX12_lock 30 = .ok (.invokevirtual 113, 3) := by decide +kernel
theorem dX12_lock_33 : decode cX12_lock 33 = .ok (.aload_n 0, 1) := by decide +kernel
theorem dX12_lock_34 : decode cX12_lock 34 = .ok (.getfield 7, 3) := by decide +kernel
theorem dX12_lock_37 : decode cX12_lock 37 = .ok (.iconst 4, 1) := by decide +kernel
theorem dX12_lock_38 : decode cX12_lock 38 = .ok (.iconst 1, 1) := by decide +kernel
theorem dX12_lock_39 : decode cX12_lock 39 = .ok (.iload_n 1, 1) := by decide +kernel
theorem dX12_lock_40 : decode cX12_lock 40 = .ok (.ishl, 1) := by decide +kernel
theorem dX12_lock_41 : decode cX12_lock 41 = .ok (.iastore, 1) := by decide +kernel
theorem dX12_lock_42 : decode cX12_lock 42 = .ok (.iconst 1, 1) := by decide +kernel
theorem dX12_lock_43 : decode cX12_lock 43 = .ok (.ireturn, 1) := by decide +kernel
theorem dX12_undo_0 : decode cX12_undo 0 = .ok (.aload_n 0, 1) := by decide +kernel
theorem dX12_undo_1 : decode cX12_undo 1 = .ok (.getfield 7, 3) := by decide +kernel
theorem dX12_undo_4 : decode cX12_undo 4 = .ok (.bipush 8, 2) := by decide +kernel
theorem dX12_undo_6 : decode cX12_undo 6 = .ok (.iaload, 1) := by decide +kernel
theorem dX12_undo_7 : decode cX12_undo 7 = .ok (.ifCond .ne 8, 3) := by decide +kernel
theorem dX12_undo_10 : decode cX12_undo 10 = .ok (.aload_n 0, 1) := by decide +kernel
theorem dX12_undo_11 : decode cX12_undo 11 = .ok (.invokevirtual 107, 3) := by decide +kernel
theorem dX12_undo_14 : decode cX12_undo 14 = .ok (.ireturn, 1) := by decide +kernel
theorem dX12_undo_15 : decode cX12_undo 15 = .ok (.aload_n 0, 1) := by decide +kernel
theorem dX12_undo_16 : decode cX12_undo 16 = .ok (.getfield 7, 3) := by decide +kernel
theorem dX12_undo_19 : decode cX12_undo 19 = .ok (.bipush 8, 2) := by decide +kernel
theorem dX12_undo_21 : decode cX12_undo 21 = .ok (.dup2, 1) := by decide +kernel
theorem dX12_undo_22 : decode cX12_undo 22 = .ok (.iaload, 1) := by decide +kernel
theorem dX12_undo_23 : decode cX12_undo 23 = .ok (.iconst 1, 1) := by decide +kernel
theorem dX12_undo_24 : decode cX12_undo 24 = .ok (.isub, 1) := by decide +kernel
theorem dX12_undo_25 : decode cX12_undo 25 = .ok (.iastore, 1) := by decide +kernel
theorem dX12_undo_26 : decode cX12_undo 26 = .ok (.iconst 0, 1) := by decide +kernel
theorem dX12_undo_27 : decode cX12_undo 27 = .ok (.istore_n 1, 1) := by decide +kernel
theorem dX12_undo_28 : decode cX12_undo 28 = .ok (.iload_n 1, 1) := by decide +kernel
theorem dX12_undo_29 : decode cX12_undo 29 = .ok (.bipush 6, 2) := by decide +kernel
theorem dX12_undo_31 : decode cX12_undo 31 = .ok (.if_icmp .ge 37, 3) := by decide +kernel
theorem dX12_undo_34 : decode cX12_undo 34 = .ok (.aload_n 0, 1) := by decide +kernel
theorem dX12_undo_35 : decode cX12_undo 35 = .ok (.getfield 7, 3) := by decide +kernel
theorem dX12_undo_38 : decode cX12_undo 38 = .ok (.iconst 1, 1) := by decide +kernel
theorem dX12_undo_39 : decode cX12_undo 39 = .ok (.iload_n 1, 1) := by decide +kernel
theorem dX12_undo_40 : decode cX12_undo 40 = .ok (.iadd, 1) := by decide +kernel
theorem dX12_undo_41 : decode cX12_undo 41 = .ok (.aload_n 0, 1) := by decide +kernel
theorem dX12_undo_42 : decode cX12_undo 42 = .ok (.getfield 7, 3) := by decide +kernel
theorem dX12_undo_45 : decode cX12_undo 45 = .ok (.bipush 57, 2) := by decide +kernel
theorem dX12_undo_47 : decode cX12_undo 47 = .ok (.bipush 6, 2) := by decide +kernel
theorem dX12_undo_49 : decode cX12_undo 49 = .ok (.aload_n 0, 1) := by decide +kernel
theorem dX12_undo_50 : decode cX12_undo 50 = .ok (.getfield 7, 3) := by decide +kernel
theorem dX12_undo_53 : decode cX12_undo 53 = .ok (.bipush 8, 2) := by decide +kernel
theorem dX12_undo_55 : decode cX12_undo 55 = .ok (.iaload, 1) := by decide +kernel
theorem dX12_undo_56 : decode cX12_undo 56 = .ok (.imul, 1) := by decide +kernel
theorem dX12_undo_57 : decode cX12_undo 57 = .ok (.iadd, 1) := by decide +kernel
theorem dX12_undo_58 : decode cX12_undo 58 = .ok (.iload_n 1, 1) := by decide +kernel
theorem dX12_undo_59 : decode cX12_undo 59 = .ok (.iadd, 1) := by decide +kernel
theorem dX12_undo_60 : decode cX12_undo 60 = .ok (.iaload, 1) := by decide +kernel
theorem dX12_undo_61 : decode cX12_undo 61 = .ok (.iastore, 1) := by decide +kernel
theorem dX12_undo_62 : decode cX12_undo 62 = .ok (.iinc 1 1, 3) := by decide +kernel
theorem dX12_undo_65 : decode cX12_undo 65 = .ok (.goto (-37), 3) := by decide +kernel
theorem dX12_undo_68 : decode cX12_undo 68 = .ok (.aload_n 0, 1) := by decide +kernel
theorem dX12_undo_69 : decode cX12_undo 69 = .ok (.getfield 7, 3) := by decide +kernel
theorem dX12_undo_72 : decode cX12_undo 72 = .ok (.bipush 6, 2) := by decide +kernel
theorem dX12_undo_74 : decode cX12_undo 74 = .ok (.iaload, 1) := by decide +kernel
theorem dX12_undo_75 : decode cX12_undo 75 = .ok (.ireturn, 1) := by decide +kernel
theorem dX12_of_0 : decode cX12_of 0 = .ok (.aload_n 0, 1) := by decide +kernel
theorem dX12_of_1 : decode cX12_of 1 = .ok (.iload_n 1, 1) := by decide +kernel
theorem dX12_of_2 : decode cX12_of 2 = .ok (.invokevirtual 123, 3) := by decide +kernel
theorem dX12_of_5 : decode cX12_of 5 = .ok (.ifCond .eq 15, 3) := by decide +kernel
theorem dX12_of_8 : decode cX12_of 8 = .ok (.iload_n 2, 1) := by decide +kernel
theorem dX12_of_9 : decode cX12_of 9 = .ok (.i2l, 1) := by decide +kernel
theorem dX12_of_10 : decode cX12_of 10 = .ok (.lconst 0, 1) := by decide +kernel
theorem dX12_of_11 : decode cX12_of 11 = .ok (.ldc2_w 129, 3) := by decide +kernel
theorem dX12_of_14 : decode cX12_of 14 = .ok (.invokestatic 53, 3) := by decide +kernel
theorem dX12_of_17 : decode cX12_of 17 = .ok (.ifCond .ne 10, 3) := by decide +kernel
theorem dX12_of_20 : decode cX12_of 20 = .ok (.aload_n 0, 1) := by decide +kernel
theorem dX12_of_21 : decode cX12_of 21 = .ok (.bipush (-2), 2) := by decide +kernel
theorem dX12_of_23 : decode cX12_of 23 = .ok (.invokevirtual 61, 3) := by decide +kernel
theorem dX12_of_26 : decode cX12_of 26 = .ok (.ireturn, 1) := by decide +kernel
theorem dX12_of_27 : decode cX12_of 27 = .ok (.aload_n 0, 1) := by decide +kernel
theorem dX12_of_28 : decode cX12_of 28 = .ok (.invokevirtual 110, 3) := by decide +kernel
theorem dX12_of_31 : decode cX12_of 31 = .ok (.iload_n 2, 1) := by decide +kernel
theorem dX12_of_32 : decode cX12_of 32 = .ok (.iconst 4, 1) := by decide +kernel
theorem dX12_of_33 : decode cX12_of 33 = .ok (.if_icmp .ge 12, 3) := by decide +kernel
theorem dX12_of_36 : decode cX12_of 36 = .ok (.aload_n 0, 1) := by decide +kernel
theorem dX12_of_37 : decode cX12_of 37 = .ok (.iload_n 1, 1) := by decide +kernel
theorem dX12_of_38 : decode cX12_of 38 = .ok (.iload_n 2, 1) := by decide +kernel
theorem dX12_of_39 : decode cX12_of 39 = .ok (.invokevirtual 80, 3) := by decide +kernel
theorem dX12_of_42 : decode cX12_of 42 = .ok (.goto 35, 3) := by decide +kernel
theorem dX12_of_45 : decode cX12_of 45 = .ok (.iload_n 2, 1) := by decide +kernel
theorem dX12_of_46 : decode cX12_of 46 = .ok (.iconst 4, 1) := by decide +kernel
theorem dX12_of_47 : decode cX12_of 47 = .ok (.if_icmp .ne 11, 3) := by decide +kernel
theorem dX12_of_50 : decode cX12_of 50 = .ok (.aload_n 0, 1) := by decide +kernel
theorem dX12_of_51 : decode cX12_of 51 = .ok (.iload_n 1, 1) := by decide +kernel
theorem dX12_of_52 : decode cX12_of 52 = .ok (.invokevirtual 126, 3) := by decide +kernel
theorem dX12_of_55 : decode cX12_of 55 = .ok (.goto 22, 3) := by decide +kernel
theorem dX12_of_58 : decode cX12_of 58 = .ok (.aload_n 0, 1) := by decide +kernel
theorem dX12_of_59 : decode cX12_of 59 = .ok (.getfield 7, 3) := by decide +kernel
theorem dX12_of_62 : decode cX12_of 62 = .ok (.iload_n 2, 1) := by decide +kernel
theorem dX12_of_63 : decode cX12_of 63 = .ok (.iconst 5, 1) := by decide +kernel
theorem dX12_of_64 : decode cX12_of 64 = .ok (.if_icmp .ne 7, 3) := by decide +kernel
theorem dX12_of_67 : decode cX12_of 67 = .ok (.iconst 3, 1) := by decide +kernel
theorem dX12_of_68 : decode cX12_of 68 = .ok (.goto 4, 3) := by decide +kernel
theorem dX12_of_71 : decode cX12_of 71 = .ok (.iconst 4, 1) := by decide +kernel
theorem dX12_of_72 : decode cX12_of 72 = .ok (.iaload, 1) := by decide +kernel
theorem dX12_of_73 : decode cX12_of 73 = .ok (.iload_n 1, 1) := by decide +kernel
theorem dX12_of_74 : decode cX12_of 74 = .ok (.ishr, 1) := by decide +kernel
theorem dX12_of_75 : decode cX12_of 75 = .ok (.iconst 1, 1) := by decide +kernel
theorem dX12_of_76 : decode cX12_of 76 = .ok (.iand, 1) := by decide +kernel
theorem dX12_of_77 : decode cX12_of 77 = .ok (.ireturn, 1) := by decide +kernel
theorem dX12_joy_0 : decode cX12_joy 0 = .ok (.aload_n 0, 1) := by decide +kernel
theorem dX12_joy_1 : decode cX12_joy 1 = .ok (.iload_n 1, 1) := by decide +kernel
theorem dX12_joy_2 : decode cX12_joy 2 = .ok (.invokevirtual 123, 3) := by decide +kernel
theorem dX12_joy_5 : decode cX12_joy 5 = .ok (.ifCond .eq 10, 3) := by decide +kernel
theorem dX12_joy_8 : decode cX12_joy 8 = .ok (.iload_n 2, 1) := by decide +kernel
theorem dX12_joy_9 : decode cX12_joy 9 = .ok (.invokestatic 67, 3) := by decide +kernel
theorem dX12_joy_12 : decode cX12_joy 12 = .ok (.ifCond .ne 11, 3) := by decide +kernel
theorem dX12_joy_15 : decode cX12_joy 15 = .ok (.aload_n 0, 1) := by decide +kernel
theorem dX12_joy_16 : decode cX12_joy 16 = .ok (.sipush (-1000), 3) := by decide +kernel
theorem dX12_joy_19 : decode cX12_joy 19 = .ok (.invokevirtual 61, 3) := by decide +kernel
theorem dX12_joy_22 : decode cX12_joy 22 = .ok (.ireturn, 1) := by decide +kernel
theorem dX12_joy_23 : decode cX12_joy 23 = .ok (.aload_n 0, 1) := by decide +kernel
theorem dX12_joy_24 : decode cX12_joy 24 = .ok (.invokevirtual 110, 3) := by decide +kernel
theorem dX12_joy_27 : decode cX12_joy 27 = .ok (.aload_n 0, 1) := by decide +kernel
theorem dX12_joy_28 : decode cX12_joy 28 = .ok (.iload_n 1, 1) := by decide +kernel
theorem dX12_joy_29 : decode cX12_joy 29 = .ok (.iload_n 2, 1) := by decide +kernel
theorem dX12_joy_30 : decode cX12_joy 30 = .ok (.invokevirtual 94, 3) := by decide +kernel
theorem dX12_joy_33 : decode cX12_joy 33 = .ok (.ireturn, 1) := by decide +kernel
theorem dX12_acts_0 : decode cX12_acts 0 = .ok (.iload_n 1, 1) := by decide +kernel
theorem dX12_acts_1 : decode cX12_acts 1 = .ok (.ifCond .ne 12, 3) := by decide +kernel
theorem dX12_acts_4 : decode cX12_acts 4 = .ok (.aload_n 0, 1) := by decide +kernel
theorem dX12_acts_5 : decode cX12_acts 5 = .ok (.getfield 7, 3) := by decide +kernel
theorem dX12_acts_8 : decode cX12_acts 8 = .ok (.iconst 1, 1) := by decide +kernel
theorem dX12_acts_9 : decode cX12_acts 9 = .ok (.iaload, 1) := by decide +kernel
theorem dX12_acts_10 : decode cX12_acts 10 = .ok (.goto 23, 3) := by decide +kernel
theorem dX12_acts_13 : decode cX12_acts 13 = .ok (.iload_n 1, 1) := by decide +kernel
theorem dX12_acts_14 : decode cX12_acts 14 = .ok (.iconst 1, 1) := by decide +kernel
theorem dX12_acts_15 : decode cX12_acts 15 = .ok (.if_icmp .ne 12, 3) := by decide +kernel
theorem dX12_acts_18 : decode cX12_acts 18 = .ok (.aload_n 0, 1) := by decide +kernel
theorem dX12_acts_19 : decode cX12_acts 19 = .ok (.getfield 7, 3) := by decide +kernel
theorem dX12_acts_22 : decode cX12_acts 22 = .ok (.iconst 2, 1) := by decide +kernel
theorem dX12_acts_23 : decode cX12_acts 23 = .ok (.iaload, 1) := by decide +kernel
theorem dX12_acts_24 : decode cX12_acts 24 = .ok (.goto 9, 3) := by decide +kernel
theorem dX12_acts_27 : decode cX12_acts 27 = .ok (.aload_n 0, 1) := by decide +kernel
theorem dX12_acts_28 : decode cX12_acts 28 = .ok (.bipush (-2), 2) := by decide +kernel
theorem dX12_acts_30 : decode cX12_acts 30 = .ok (.invokevirtual 61, 3) := by decide +kernel
theorem dX12_acts_33 : decode cX12_acts 33 = .ok (.ireturn, 1) := by decide +kernel
theorem dX12_stops_0 : decode cX12_stops 0 = .ok (.iload_n 1, 1) := by decide +kernel
theorem dX12_stops_1 : decode cX12_stops 1 = .ok (.invokestatic 67, 3) := by decide +kernel
theorem dX12_stops_4 : decode cX12_stops 4 = .ok (.ifCond .ne 10, 3) := by decide +kernel
theorem dX12_stops_7 : decode cX12_stops 7 = .ok (.aload_n 0, 1) := by decide +kernel
theorem dX12_stops_8 : decode cX12_stops 8 = .ok (.bipush (-2), 2) := by decide +kernel
theorem dX12_stops_10 : decode cX12_stops 10 = .ok (.invokevirtual 61, 3) := by decide +kernel
theorem dX12_stops_13 : decode cX12_stops 13 = .ok (.ireturn, 1) := by decide +kernel
theorem dX12_stops_14 : decode cX12_stops 14 = .ok (.aload_n 0, 1) := by decide +kernel
theorem dX12_stops_15 : decode cX12_stops 15 = .ok (.invokevirtual 110, 3) := by decide +kernel
theorem dX12_stops_18 : decode cX12_stops 18 = .ok (.aload_n 0, 1) := by decide +kernel
theorem dX12_stops_19 : decode cX12_stops 19 = .ok (.iload_n 1, 1) := by decide +kernel
theorem dX12_stops_20 : decode cX12_stops 20 = .ok (.invokevirtual 116, 3) := by decide +kernel
theorem dX12_stops_23 : decode cX12_stops 23 = .ok (.ireturn, 1) := by decide +kernel
theorem dX12_mostFree_0 : decode cX12_mostFree 0 = .ok (.iconst 0, 1) := by decide +kernel
theorem dX12_mostFree_1 : decode cX12_mostFree 1 = .ok (.istore_n 1, 1) := by decide +kernel
theorem dX12_mostFree_2 : decode cX12_mostFree 2 = .ok (.iconst 1, 1) := by decide +kernel
theorem dX12_mostFree_3 : decode cX12_mostFree 3 = .ok (.istore_n 2, 1) := by decide +kernel
theorem dX12_mostFree_4 : decode cX12_mostFree 4 = .ok (.iload_n 2, 1) := by decide +kernel
theorem dX12_mostFree_5 : decode cX12_mostFree 5 = .ok (.sipush 255, 3) := by decide +kernel
theorem dX12_mostFree_8 : decode cX12_mostFree 8 = .ok (.if_icmp .gt 55, 3) := by decide +kernel
theorem dX12_mostFree_11 : decode cX12_mostFree 11 = .ok (.iload_n 2, 1) := by decide +kernel
theorem dX12_mostFree_12 : decode cX12_mostFree 12 = .ok (.aload_n 0, 1) := by decide +kernel
theorem dX12_mostFree_13 : decode cX12_mostFree 13 = .ok (.invokevirtual 104, 3) := by decide +kernel
theorem dX12_mostFree_16 : decode cX12_mostFree 16 = .ok (.iconst (-1), 1) := by decide +kernel
theorem dX12_mostFree_17 : decode cX12_mostFree 17 = .ok (.ixor, 1) := by decide +kernel
theorem dX12_mostFree_18 : decode cX12_mostFree 18 = .ok (.iand, 1) := by decide +kernel
theorem dX12_mostFree_19 : decode cX12_mostFree 19 = .ok (.ifCond .ne 18, 3) := by decide +kernel
theorem dX12_mostFree_22 : decode cX12_mostFree 22 = .ok (.iload_n 2, 1) := by decide +kernel
theorem dX12_mostFree_23 : decode cX12_mostFree 23 = .ok (.invokestatic 91, 3) := by decide +kernel
theorem dX12_mostFree_26 : decode cX12_mostFree 26 = .ok (.iload_n 1, 1) := by decide +kernel
theorem dX12_mostFree_27 : decode cX12_mostFree 27 = .ok (.invokestatic 91, 3) := by decide +kernel
theorem dX12_mostFree_30 : decode cX12_mostFree 30 = .ok (.if_icmp .le 7, 3) := by decide +kernel
theorem dX12_mostFree_33 : decode cX12_mostFree 33 = .ok (.iconst 1, 1) := by decide +kernel
theorem dX12_mostFree_34 : decode cX12_mostFree 34 = .ok (.goto 4, 3) := by decide +kernel
theorem dX12_mostFree_37 : decode cX12_mostFree 37 = .ok (.iconst 0, 1) := by decide +kernel
theorem dX12_mostFree_38 : decode cX12_mostFree 38 = .ok (.istore_n 3, 1) := by decide +kernel
theorem dX12_mostFree_39 : decode cX12_mostFree 39 = .ok (.iload_n 3, 1) := by decide +kernel
theorem dX12_mostFree_40 : decode cX12_mostFree 40 = .ok (.ifCond .eq 15, 3) := by decide +kernel
theorem dX12_mostFree_43 : decode cX12_mostFree 43 = .ok (.aload_n 0, 1) := by decide +kernel
theorem dX12_mostFree_44 : decode cX12_mostFree 44 = .ok (.iload_n 2, 1) := by decide +kernel
theorem dX12_mostFree_45 : decode cX12_mostFree 45 = .ok (.invokevirtual 116, 3) := by decide +kernel
theorem dX12_mostFree_48 : decode cX12_mostFree 48 = .ok (.ifCond .ne 7, 3) := by decide +kernel
theorem dX12_mostFree_51 : decode cX12_mostFree 51 = .ok (.iload_n 2, 1) := by decide +kernel
theorem dX12_mostFree_52 : decode cX12_mostFree 52 = .ok (.goto 4, 3) := by decide +kernel
theorem dX12_mostFree_55 : decode cX12_mostFree 55 = .ok (.iload_n 1, 1) := by decide +kernel
theorem dX12_mostFree_56 : decode cX12_mostFree 56 = .ok (.istore_n 1, 1) := by decide +kernel
theorem dX12_mostFree_57 : decode cX12_mostFree 57 = .ok (.iinc 2 1, 3) := by decide +kernel
theorem dX12_mostFree_60 : decode cX12_mostFree 60 = .ok (.goto (-56), 3) := by decide +kernel
theorem dX12_mostFree_63 : decode cX12_mostFree 63 = .ok (.iload_n 1, 1) := by decide +kernel
theorem dX12_mostFree_64 : decode cX12_mostFree 64 = .ok (.ireturn, 1) := by decide +kernel
theorem dX12_most_0 : decode cX12_most 0 = .ok (.aload_n 0, 1) := by decide +kernel
theorem dX12_most_1 : decode cX12_most 1 = .ok (.invokevirtual 110, 3) := by decide +kernel
theorem dX12_most_4 : decode cX12_most 4 = .ok (.aload_n 0, 1) := by decide +kernel
theorem dX12_most_5 : decode cX12_most 5 = .ok (.invokevirtual 131, 3) := by decide +kernel
theorem dX12_most_8 : decode cX12_most 8 = .ok (.ireturn, 1) := by decide +kernel
theorem dX12_costOfAll_0 : decode cX12_costOfAll 0 = .ok (.iconst 0, 1) := by decide +kernel
theorem dX12_costOfAll_1 : decode cX12_costOfAll 1 = .ok (.istore_n 2, 1) := by decide +kernel
theorem dX12_costOfAll_2 : decode cX12_costOfAll 2 = .ok (.iconst 0, 1) := by decide +kernel
theorem dX12_costOfAll_3 : decode cX12_costOfAll 3 = .ok (.istore_n 3, 1) := by decide +kernel
theorem dX12_costOfAll_4 : decode cX12_costOfAll 4 = .ok (.iload_n 3, 1) := by decide +kernel
theorem dX12_costOfAll_5 : decode cX12_costOfAll 5 = .ok (.aload_n 0, 1) := by decide +kernel
theorem dX12_costOfAll_6 : decode cX12_costOfAll 6 = .ok (.invokevirtual 49, 3) := by decide +kernel
theorem dX12_costOfAll_9 : decode cX12_costOfAll 9 = .ok (.if_icmp .ge 29, 3) := by decide +kernel
theorem dX12_costOfAll_12 : decode cX12_costOfAll 12 = .ok (.iload_n 2, 1) := by decide +kernel
theorem dX12_costOfAll_13 : decode cX12_costOfAll 13 = .ok (.iload_n 1, 1) := by decide +kernel
theorem dX12_costOfAll_14 : decode cX12_costOfAll 14 = .ok (.iload_n 3, 1) := by decide +kernel
theorem dX12_costOfAll_15 : decode cX12_costOfAll 15 = .ok (.invokestatic 97, 3) := by decide +kernel
theorem dX12_costOfAll_18 : decode cX12_costOfAll 18 = .ok (.ifCond .eq 11, 3) := by decide +kernel
theorem dX12_costOfAll_21 : decode cX12_costOfAll 21 = .ok (.aload_n 0, 1) := by decide +kernel
theorem dX12_costOfAll_22 : decode cX12_costOfAll 22 = .ok (.iload_n 3, 1) := by decide +kernel
theorem dX12_costOfAll_23 : decode cX12_costOfAll 23 = .ok (.invokevirtual 126, 3) := by decide +kernel
theorem dX12_costOfAll_26 : decode cX12_costOfAll 26 = .ok (.goto 4, 3) := by decide +kernel
theorem dX12_costOfAll_29 : decode cX12_costOfAll 29 = .ok (.iconst 0, 1) := by decide +kernel
theorem dX12_costOfAll_30 : decode cX12_costOfAll 30 = .ok (.iadd, 1) := by decide +kernel
theorem dX12_costOfAll_31 : decode cX12_costOfAll 31 = .ok (.istore_n 2, 1) := by decide +kernel
theorem dX12_costOfAll_32 : decode cX12_costOfAll 32 = .ok (.iinc 3 1, 3) := by decide +kernel
theorem dX12_costOfAll_35 : decode cX12_costOfAll 35 = .ok (.goto (-31), 3) := by decide +kernel
theorem dX12_costOfAll_38 : decode cX12_costOfAll 38 = .ok (.iload_n 2, 1) := by decide +kernel
theorem dX12_costOfAll_39 : decode cX12_costOfAll 39 = .ok (.ireturn, 1) := by decide +kernel
theorem dX12_money_0 : decode cX12_money 0 = .ok (.iload_n 1, 1) := by decide +kernel
theorem dX12_money_1 : decode cX12_money 1 = .ok (.i2l, 1) := by decide +kernel
theorem dX12_money_2 : decode cX12_money 2 = .ok (.lconst 0, 1) := by decide +kernel
theorem dX12_money_3 : decode cX12_money 3 = .ok (.ldc2_w 134, 3) := by decide +kernel
theorem dX12_money_6 : decode cX12_money 6 = .ok (.invokestatic 53, 3) := by decide +kernel
theorem dX12_money_9 : decode cX12_money 9 = .ok (.ifCond .eq 15, 3) := by decide +kernel
theorem dX12_money_12 : decode cX12_money 12 = .ok (.iload_n 2, 1) := by decide +kernel
theorem dX12_money_13 : decode cX12_money 13 = .ok (.i2l, 1) := by decide +kernel
theorem dX12_money_14 : decode cX12_money 14 = .ok (.lconst 0, 1) := by decide +kernel
theorem dX12_money_15 : decode cX12_money 15 = .ok (.ldc2_w 136, 3) := by decide +kernel
theorem dX12_money_18 : decode cX12_money 18 = .ok (.invokestatic 53, 3) := by decide +kernel
theorem dX12_money_21 : decode cX12_money 21 = .ok (.ifCond .ne 10, 3) := by decide +kernel
theorem dX12_money_24 : decode cX12_money 24 = .ok (.aload_n 0, 1) := by decide +kernel
theorem dX12_money_25 : decode cX12_money 25 = .ok (.bipush (-2), 2) := by decide +kernel
theorem dX12_money_27 : decode cX12_money 27 = .ok (.invokevirtual 61, 3) := by decide +kernel
theorem dX12_money_30 : decode cX12_money 30 = .ok (.ireturn, 1) := by decide +kernel
theorem dX12_money_31 : decode cX12_money 31 = .ok (.iconst 0, 1) := by decide +kernel
theorem dX12_money_32 : decode cX12_money 32 = .ok (.istore_n 3, 1) := by decide +kernel
theorem dX12_money_33 : decode cX12_money 33 = .ok (.aload_n 0, 1) := by decide +kernel
theorem dX12_money_34 : decode cX12_money 34 = .ok (.invokevirtual 110, 3) := by decide +kernel
theorem dX12_money_37 : decode cX12_money 37 = .ok (.iconst 1, 1) := by decide +kernel
theorem dX12_money_38 : decode cX12_money 38 = .ok (.istore 4, 2) := by decide +kernel
theorem dX12_money_40 : decode cX12_money 40 = .ok (.iload 4, 2) := by decide +kernel
theorem dX12_money_42 : decode cX12_money 42 = .ok (.sipush 255, 3) := by decide +kernel
theorem dX12_money_45 : decode cX12_money 45 = .ok (.if_icmp .gt 66, 3) := by decide +kernel
theorem dX12_money_48 : decode cX12_money 48 = .ok (.iload 4, 2) := by decide +kernel
theorem dX12_money_50 : decode cX12_money 50 = .ok (.aload_n 0, 1) := by decide +kernel
theorem dX12_money_51 : decode cX12_money 51 = .ok (.invokevirtual 104, 3) := by decide +kernel
theorem dX12_money_54 : decode cX12_money 54 = .ok (.iconst (-1), 1) := by decide +kernel
theorem dX12_money_55 : decode cX12_money 55 = .ok (.ixor, 1) := by decide +kernel
theorem dX12_money_56 : decode cX12_money 56 = .ok (.iand, 1) := by decide +kernel
theorem dX12_money_57 : decode cX12_money 57 = .ok (.ifCond .ne 19, 3) := by decide +kernel
theorem dX12_money_60 : decode cX12_money 60 = .ok (.iload 4, 2) := by decide +kernel
theorem dX12_money_62 : decode cX12_money 62 = .ok (.invokestatic 91, 3) := by decide +kernel
theorem dX12_money_65 : decode cX12_money 65 = .ok (.iload_n 3, 1) := by decide +kernel
theorem dX12_money_66 : decode cX12_money 66 = .ok (.invokestatic 91, 3) := by decide +kernel
theorem dX12_money_69 : decode cX12_money 69 = .ok (.if_icmp .le 7, 3) := by decide +kernel
theorem dX12_money_72 : decode cX12_money 72 = .ok (.iconst 1, 1) := by decide +kernel
theorem dX12_money_73 : decode cX12_money 73 = .ok (.goto 4, 3) := by decide +kernel
theorem dX12_money_76 : decode cX12_money 76 = .ok (.iconst 0, 1) := by decide +kernel
theorem dX12_money_77 : decode cX12_money 77 = .ok (.istore 5, 2) := by decide +kernel
theorem dX12_money_79 : decode cX12_money 79 = .ok (.iload 5, 2) := by decide +kernel
theorem dX12_money_81 : decode cX12_money 81 = .ok (.ifCond .eq 22, 3) := by decide +kernel
theorem dX12_money_84 : decode cX12_money 84 = .ok (.aload_n 0, 1) := by decide +kernel
theorem dX12_money_85 : decode cX12_money 85 = .ok (.aload_n 0, 1) := by decide +kernel
theorem dX12_money_86 : decode cX12_money 86 = .ok (.iload 4, 2) := by decide +kernel
theorem dX12_money_88 : decode cX12_money 88 = .ok (.invokevirtual 116, 3) := by decide +kernel
theorem dX12_money_91 : decode cX12_money 91 = .ok (.invokevirtual 138, 3) := by decide +kernel
theorem dX12_money_94 : decode cX12_money 94 = .ok (.iload_n 1, 1) := by decide +kernel
theorem dX12_money_95 : decode cX12_money 95 = .ok (.if_icmp .gt 8, 3) := by decide +kernel
theorem dX12_money_98 : decode cX12_money 98 = .ok (.iload 4, 2) := by decide +kernel
theorem dX12_money_100 : decode cX12_money 100 = .ok (.goto 4, 3) := by decide +kernel
theorem dX12_money_103 : decode cX12_money 103 = .ok (.iload_n 3, 1) := by decide +kernel
theorem dX12_money_104 : decode cX12_money 104 = .ok (.istore_n 3, 1) := by decide +kernel
theorem dX12_money_105 : decode cX12_money 105 = .ok (.iinc 4 1, 3) := by decide +kernel
theorem dX12_money_108 : decode cX12_money 108 = .ok (.goto (-68), 3) := by decide +kernel
theorem dX12_money_111 : decode cX12_money 111 = .ok (.aload_n 0, 1) := by decide +kernel
theorem dX12_money_112 : decode cX12_money 112 = .ok (.iload_n 3, 1) := by decide +kernel
theorem dX12_money_113 : decode cX12_money 113 = .ok (.invokevirtual 116, 3) := by decide +kernel
theorem dX12_money_116 : decode cX12_money 116 = .ok (.istore 4, 2) := by decide +kernel
theorem dX12_money_118 : decode cX12_money 118 = .ok (.iload_n 2, 1) := by decide +kernel
theorem dX12_money_119 : decode cX12_money 119 = .ok (.ifCond .ne 7, 3) := by decide +kernel
theorem dX12_money_122 : decode cX12_money 122 = .ok (.iload_n 3, 1) := by decide +kernel
theorem dX12_money_123 : decode cX12_money 123 = .ok (.goto 19, 3) := by decide +kernel
theorem dX12_money_126 : decode cX12_money 126 = .ok (.iload_n 2, 1) := by decide +kernel
theorem dX12_money_127 : decode cX12_money 127 = .ok (.iconst 1, 1) := by decide +kernel
theorem dX12_money_128 : decode cX12_money 128 = .ok (.if_icmp .ne 12, 3) := by decide +kernel
theorem dX12_money_131 : decode cX12_money 131 = .ok (.aload_n 0, 1) := by decide +kernel
theorem dX12_money_132 : decode cX12_money 132 = .ok (.iload 4, 2) := by decide +kernel
theorem dX12_money_134 : decode cX12_money 134 = .ok (.invokevirtual 138, 3) := by decide +kernel
theorem dX12_money_137 : decode cX12_money 137 = .ok (.goto 5, 3) := by decide +kernel
theorem dX12_money_140 : decode cX12_money 140 = .ok (.iload 4, 2) := by decide +kernel
theorem dX12_money_142 : decode cX12_money 142 = .ok (.ireturn, 1) := by decide +kernel
theorem dX12_tied_0 : decode cX12_tied 0 = .ok (.iload_n 1, 1) := by decide +kernel
theorem dX12_tied_1 : decode cX12_tied 1 = .ok (.invokestatic 67, 3) := by decide +kernel
theorem dX12_tied_4 : decode cX12_tied 4 = .ok (.ifCond .eq 11, 3) := by decide +kernel
theorem dX12_tied_7 : decode cX12_tied 7 = .ok (.iload_n 1, 1) := by decide +kernel
theorem dX12_tied_8 : decode cX12_tied 8 = .ok (.invokestatic 91, 3) := by decide +kernel
theorem dX12_tied_11 : decode cX12_tied 11 = .ok (.iconst 2, 1) := by decide +kernel
theorem dX12_tied_12 : decode cX12_tied 12 = .ok (.if_icmp .ge 10, 3) := by decide +kernel
theorem dX12_tied_15 : decode cX12_tied 15 = .ok (.aload_n 0, 1) := by decide +kernel
theorem dX12_tied_16 : decode cX12_tied 16 = .ok (.bipush (-2), 2) := by decide +kernel
theorem dX12_tied_18 : decode cX12_tied 18 = .ok (.invokevirtual 61, 3) := by decide +kernel
theorem dX12_tied_21 : decode cX12_tied 21 = .ok (.ireturn, 1) := by decide +kernel
theorem dX12_tied_22 : decode cX12_tied 22 = .ok (.aload_n 0, 1) := by decide +kernel
theorem dX12_tied_23 : decode cX12_tied 23 = .ok (.invokevirtual 110, 3) := by decide +kernel
theorem dX12_tied_26 : decode cX12_tied 26 = .ok (.iconst 1, 1) := by decide +kernel
theorem dX12_tied_27 : decode cX12_tied 27 = .ok (.istore_n 2, 1) := by decide +kernel
theorem dX12_tied_28 : decode cX12_tied 28 = .ok (.iload_n 2, 1) := by decide +kernel
theorem dX12_tied_29 : decode cX12_tied 29 = .ok (.iload_n 1, 1) := by decide +kernel
theorem dX12_tied_30 : decode cX12_tied 30 = .ok (.if_icmp .ge 58, 3) := by decide +kernel
theorem dX12_tied_33 : decode cX12_tied 33 = .ok (.iload_n 2, 1) := by decide +kernel
theorem dX12_tied_34 : decode cX12_tied 34 = .ok (.iload_n 1, 1) := by decide +kernel
theorem dX12_tied_35 : decode cX12_tied 35 = .ok (.iconst (-1), 1) := by decide +kernel
theorem dX12_tied_36 : decode cX12_tied 36 = .ok (.ixor, 1) := by decide +kernel
theorem dX12_tied_37 : decode cX12_tied 37 = .ok (.iand, 1) := by decide +kernel
theorem dX12_tied_38 : decode cX12_tied 38 = .ok (.ifCond .ne 16, 3) := by decide +kernel
theorem dX12_tied_41 : decode cX12_tied 41 = .ok (.iload_n 2, 1) := by decide +kernel
theorem dX12_tied_42 : decode cX12_tied 42 = .ok (.iload_n 1, 1) := by decide +kernel
theorem dX12_tied_43 : decode cX12_tied 43 = .ok (.iand, 1) := by decide +kernel
theorem dX12_tied_44 : decode cX12_tied 44 = .ok (.iload_n 1, 1) := by decide +kernel
theorem dX12_tied_45 : decode cX12_tied 45 = .ok (.ineg, 1) := by decide +kernel
theorem dX12_tied_46 : decode cX12_tied 46 = .ok (.iand, 1) := by decide +kernel
theorem dX12_tied_47 : decode cX12_tied 47 = .ok (.ifCond .eq 7, 3) := by decide +kernel
theorem dX12_tied_50 : decode cX12_tied 50 = .ok (.iconst 1, 1) := by decide +kernel
theorem dX12_tied_51 : decode cX12_tied 51 = .ok (.goto 4, 3) := by decide +kernel
theorem dX12_tied_54 : decode cX12_tied 54 = .ok (.iconst 0, 1) := by decide +kernel
theorem dX12_tied_55 : decode cX12_tied 55 = .ok (.istore_n 3, 1) := by decide +kernel
theorem dX12_tied_56 : decode cX12_tied 56 = .ok (.iload_n 3, 1) := by decide +kernel
theorem dX12_tied_57 : decode cX12_tied 57 = .ok (.ifCond .eq 25, 3) := by decide +kernel
theorem dX12_tied_60 : decode cX12_tied 60 = .ok (.aload_n 0, 1) := by decide +kernel
theorem dX12_tied_61 : decode cX12_tied 61 = .ok (.iload_n 2, 1) := by decide +kernel
theorem dX12_tied_62 : decode cX12_tied 62 = .ok (.invokevirtual 116, 3) := by decide +kernel
theorem dX12_tied_65 : decode cX12_tied 65 = .ok (.ifCond .ne 17, 3) := by decide +kernel
theorem dX12_tied_68 : decode cX12_tied 68 = .ok (.aload_n 0, 1) := by decide +kernel
theorem dX12_tied_69 : decode cX12_tied 69 = .ok (.iload_n 1, 1) := by decide +kernel
theorem dX12_tied_70 : decode cX12_tied 70 = .ok (.iload_n 2, 1) := by decide +kernel
theorem dX12_tied_71 : decode cX12_tied 71 = .ok (.iconst (-1), 1) := by decide +kernel
theorem dX12_tied_72 : decode cX12_tied 72 = .ok (.ixor, 1) := by decide +kernel
theorem dX12_tied_73 : decode cX12_tied 73 = .ok (.iand, 1) := by decide +kernel
theorem dX12_tied_74 : decode cX12_tied 74 = .ok (.invokevirtual 116, 3) := by decide +kernel
theorem dX12_tied_77 : decode cX12_tied 77 = .ok (.ifCond .ne 5, 3) := by decide +kernel
theorem dX12_tied_80 : decode cX12_tied 80 = .ok (.iload_n 2, 1) := by decide +kernel
theorem dX12_tied_81 : decode cX12_tied 81 = .ok (.ireturn, 1) := by decide +kernel
theorem dX12_tied_82 : decode cX12_tied 82 = .ok (.iinc 2 1, 3) := by decide +kernel
theorem dX12_tied_85 : decode cX12_tied 85 = .ok (.goto (-57), 3) := by decide +kernel
theorem dX12_tied_88 : decode cX12_tied 88 = .ok (.iconst (-1), 1) := by decide +kernel
theorem dX12_tied_89 : decode cX12_tied 89 = .ok (.ireturn, 1) := by decide +kernel
theorem dX12_alone_0 : decode cX12_alone 0 = .ok (.iconst 0, 1) := by decide +kernel
theorem dX12_alone_1 : decode cX12_alone 1 = .ok (.istore_n 1, 1) := by decide +kernel
theorem dX12_alone_2 : decode cX12_alone 2 = .ok (.aload_n 0, 1) := by decide +kernel
theorem dX12_alone_3 : decode cX12_alone 3 = .ok (.invokevirtual 110, 3) := by decide +kernel
theorem dX12_alone_6 : decode cX12_alone 6 = .ok (.iconst 0, 1) := by decide +kernel
theorem dX12_alone_7 : decode cX12_alone 7 = .ok (.istore_n 2, 1) := by decide +kernel
theorem dX12_alone_8 : decode cX12_alone 8 = .ok (.iload_n 2, 1) := by decide +kernel
theorem dX12_alone_9 : decode cX12_alone 9 = .ok (.bipush 8, 2) := by decide +kernel
theorem dX12_alone_11 : decode cX12_alone 11 = .ok (.if_icmp .ge 29, 3) := by decide +kernel
theorem dX12_alone_14 : decode cX12_alone 14 = .ok (.iload_n 1, 1) := by decide +kernel
theorem dX12_alone_15 : decode cX12_alone 15 = .ok (.aload_n 0, 1) := by decide +kernel
theorem dX12_alone_16 : decode cX12_alone 16 = .ok (.iconst 1, 1) := by decide +kernel
theorem dX12_alone_17 : decode cX12_alone 17 = .ok (.iload_n 2, 1) := by decide +kernel
theorem dX12_alone_18 : decode cX12_alone 18 = .ok (.ishl, 1) := by decide +kernel
theorem dX12_alone_19 : decode cX12_alone 19 = .ok (.invokevirtual 116, 3) := by decide +kernel
theorem dX12_alone_22 : decode cX12_alone 22 = .ok (.ifCond .ne 9, 3) := by decide +kernel
theorem dX12_alone_25 : decode cX12_alone 25 = .ok (.iconst 1, 1) := by decide +kernel
theorem dX12_alone_26 : decode cX12_alone 26 = .ok (.iload_n 2, 1) := by decide +kernel
theorem dX12_alone_27 : decode cX12_alone 27 = .ok (.ishl, 1) := by decide +kernel
theorem dX12_alone_28 : decode cX12_alone 28 = .ok (.goto 4, 3) := by decide +kernel
theorem dX12_alone_31 : decode cX12_alone 31 = .ok (.iconst 0, 1) := by decide +kernel
theorem dX12_alone_32 : decode cX12_alone 32 = .ok (.ior, 1) := by decide +kernel
theorem dX12_alone_33 : decode cX12_alone 33 = .ok (.istore_n 1, 1) := by decide +kernel
theorem dX12_alone_34 : decode cX12_alone 34 = .ok (.iinc 2 1, 3) := by decide +kernel
theorem dX12_alone_37 : decode cX12_alone 37 = .ok (.goto (-29), 3) := by decide +kernel
theorem dX12_alone_40 : decode cX12_alone 40 = .ok (.iload_n 1, 1) := by decide +kernel
theorem dX12_alone_41 : decode cX12_alone 41 = .ok (.ireturn, 1) := by decide +kernel
theorem dX12_league_0 : decode cX12_league 0 = .ok (.iconst 0, 1) := by decide +kernel
theorem dX12_league_1 : decode cX12_league 1 = .ok (.istore_n 1, 1) := by decide +kernel
theorem dX12_league_2 : decode cX12_league 2 = .ok (.aload_n 0, 1) := by decide +kernel
theorem dX12_league_3 : decode cX12_league 3 = .ok (.invokevirtual 110, 3) := by decide +kernel
theorem dX12_league_6 : decode cX12_league 6 = .ok (.iconst 0, 1) := by decide +kernel
theorem dX12_league_7 : decode cX12_league 7 = .ok (.istore_n 2, 1) := by decide +kernel
theorem dX12_league_8 : decode cX12_league 8 = .ok (.iload_n 2, 1) := by decide +kernel
theorem dX12_league_9 : decode cX12_league 9 = .ok (.bipush 8, 2) := by decide +kernel
theorem dX12_league_11 : decode cX12_league 11 = .ok (.if_icmp .ge 69, 3) := by decide +kernel
theorem dX12_league_14 : decode cX12_league 14 = .ok (.iconst 0, 1) := by decide +kernel
theorem dX12_league_15 : decode cX12_league 15 = .ok (.istore_n 3, 1) := by decide +kernel
theorem dX12_league_16 : decode cX12_league 16 = .ok (.iconst 0, 1) := by decide +kernel
theorem dX12_league_17 : decode cX12_league 17 = .ok (.istore 4, 2) := by decide +kernel
theorem dX12_league_19 : decode cX12_league 19 = .ok (.iload 4, 2) := by decide +kernel
theorem dX12_league_21 : decode cX12_league 21 = .ok (.aload_n 0, 1) := by decide +kernel
theorem dX12_league_22 : decode cX12_league 22 = .ok (.invokevirtual 49, 3) := by decide +kernel
theorem dX12_league_25 : decode cX12_league 25 = .ok (.if_icmp .ge 29, 3) := by decide +kernel
theorem dX12_league_28 : decode cX12_league 28 = .ok (.iload_n 3, 1) := by decide +kernel
theorem dX12_league_29 : decode cX12_league 29 = .ok (.aload_n 0, 1) := by decide +kernel
theorem dX12_league_30 : decode cX12_league 30 = .ok (.iload 4, 2) := by decide +kernel
theorem dX12_league_32 : decode cX12_league 32 = .ok (.iconst 1, 1) := by decide +kernel
theorem dX12_league_33 : decode cX12_league 33 = .ok (.iload_n 2, 1) := by decide +kernel
theorem dX12_league_34 : decode cX12_league 34 = .ok (.ishl, 1) := by decide +kernel
theorem dX12_league_35 : decode cX12_league 35 = .ok (.invokevirtual 94, 3) := by decide +kernel
theorem dX12_league_38 : decode cX12_league 38 = .ok (.ifCond .le 7, 3) := by decide +kernel
theorem dX12_league_41 : decode cX12_league 41 = .ok (.iconst 1, 1) := by decide +kernel
theorem dX12_league_42 : decode cX12_league 42 = .ok (.goto 4, 3) := by decide +kernel
theorem dX12_league_45 : decode cX12_league 45 = .ok (.iconst 0, 1) := by decide +kernel
theorem dX12_league_46 : decode cX12_league 46 = .ok (.iadd, 1) := by decide +kernel
theorem dX12_league_47 : decode cX12_league 47 = .ok (.istore_n 3, 1) := by decide +kernel
theorem dX12_league_48 : decode cX12_league 48 = .ok (.iinc 4 1, 3) := by decide +kernel
theorem dX12_league_51 : decode cX12_league 51 = .ok (.goto (-32), 3) := by decide +kernel
theorem dX12_league_54 : decode cX12_league 54 = .ok (.iload_n 1, 1) := by decide +kernel
theorem dX12_league_55 : decode cX12_league 55 = .ok (.iconst 2, 1) := by decide +kernel
theorem dX12_league_56 : decode cX12_league 56 = .ok (.iload_n 3, 1) := by decide +kernel
theorem dX12_league_57 : decode cX12_league 57 = .ok (.imul, 1) := by decide +kernel
theorem dX12_league_58 : decode cX12_league 58 = .ok (.aload_n 0, 1) := by decide +kernel
theorem dX12_league_59 : decode cX12_league 59 = .ok (.invokevirtual 49, 3) := by decide +kernel
theorem dX12_league_62 : decode cX12_league 62 = .ok (.if_icmp .le 9, 3) := by decide +kernel
theorem dX12_league_65 : decode cX12_league 65 = .ok (.iconst 1, 1) := by decide +kernel
theorem dX12_league_66 : decode cX12_league 66 = .ok (.iload_n 2, 1) := by decide +kernel
theorem dX12_league_67 : decode cX12_league 67 = .ok (.ishl, 1) := by decide +kernel
theorem dX12_league_68 : decode cX12_league 68 = .ok (.goto 4, 3) := by decide +kernel
theorem dX12_league_71 : decode cX12_league 71 = .ok (.iconst 0, 1) := by decide +kernel
theorem dX12_league_72 : decode cX12_league 72 = .ok (.ior, 1) := by decide +kernel
theorem dX12_league_73 : decode cX12_league 73 = .ok (.istore_n 1, 1) := by decide +kernel
theorem dX12_league_74 : decode cX12_league 74 = .ok (.iinc 2 1, 3) := by decide +kernel
theorem dX12_league_77 : decode cX12_league 77 = .ok (.goto (-69), 3) := by decide +kernel
theorem dX12_league_80 : decode cX12_league 80 = .ok (.iload_n 1, 1) := by decide +kernel
theorem dX12_league_81 : decode cX12_league 81 = .ok (.ireturn, 1) := by decide +kernel
theorem dX12_isStopped_0 : decode cX12_isStopped 0 = .ok (.iload_n 1, 1) := by decide +kernel
theorem dX12_isStopped_1 : decode cX12_isStopped 1 = .ok (.iconst 1, 1) := by decide +kernel
theorem dX12_isStopped_2 : decode cX12_isStopped 2 = .ok (.iload_n 3, 1) := by decide +kernel
theorem dX12_isStopped_3 : decode cX12_isStopped 3 = .ok (.ishl, 1) := by decide +kernel
theorem dX12_isStopped_4 : decode cX12_isStopped 4 = .ok (.iconst (-1), 1) := by decide +kernel
theorem dX12_isStopped_5 : decode cX12_isStopped 5 = .ok (.ixor, 1) := by decide +kernel
theorem dX12_isStopped_6 : decode cX12_isStopped 6 = .ok (.iand, 1) := by decide +kernel
theorem dX12_isStopped_7 : decode cX12_isStopped 7 = .ok (.istore 5, 2) := by decide +kernel
theorem dX12_isStopped_9 : decode cX12_isStopped 9 = .ok (.iload 4, 2) := by decide +kernel
theorem dX12_isStopped_11 : decode cX12_isStopped 11 = .ok (.aload_n 0, 1) := by decide +kernel
theorem dX12_isStopped_12 : decode cX12_isStopped 12 = .ok (.invokevirtual 49, 3) := by decide +kernel
theorem dX12_isStopped_15 : decode cX12_isStopped 15 = .ok (.if_icmp .ge 27, 3) := by decide +kernel
theorem dX12_isStopped_18 : decode cX12_isStopped 18 = .ok (.iload 4, 2) := by decide +kernel
theorem dX12_isStopped_20 : decode cX12_isStopped 20 = .ok (.iload_n 3, 1) := by decide +kernel
theorem dX12_isStopped_21 : decode cX12_isStopped 21 = .ok (.if_icmp .eq 21, 3) := by decide +kernel
theorem dX12_isStopped_24 : decode cX12_isStopped 24 = .ok (.aload_n 0, 1) := by decide +kernel
theorem dX12_isStopped_25 : decode cX12_isStopped 25 = .ok (.getfield 7, 3) := by decide +kernel
theorem dX12_isStopped_28 : decode cX12_isStopped 28 = .ok (.iconst 4, 1) := by decide +kernel
theorem dX12_isStopped_29 : decode cX12_isStopped 29 = .ok (.iaload, 1) := by decide +kernel
theorem dX12_isStopped_30 : decode cX12_isStopped 30 = .ok (.iload 4, 2) := by decide +kernel
theorem dX12_isStopped_32 : decode cX12_isStopped 32 = .ok (.invokestatic 97, 3) := by decide +kernel
theorem dX12_isStopped_35 : decode cX12_isStopped 35 = .ok (.ifCond .ne 7, 3) := by decide +kernel
theorem dX12_isStopped_38 : decode cX12_isStopped 38 = .ok (.iconst 1, 1) := by decide +kernel
theorem dX12_isStopped_39 : decode cX12_isStopped 39 = .ok (.goto 4, 3) := by decide +kernel
theorem dX12_isStopped_42 : decode cX12_isStopped 42 = .ok (.iconst 0, 1) := by decide +kernel
theorem dX12_isStopped_43 : decode cX12_isStopped 43 = .ok (.istore 6, 2) := by decide +kernel
theorem dX12_isStopped_45 : decode cX12_isStopped 45 = .ok (.iload_n 2, 1) := by decide +kernel
theorem dX12_isStopped_46 : decode cX12_isStopped 46 = .ok (.ifCond .eq 17, 3) := by decide +kernel
theorem dX12_isStopped_49 : decode cX12_isStopped 49 = .ok (.iload 5, 2) := by decide +kernel
theorem dX12_isStopped_51 : decode cX12_isStopped 51 = .ok (.ifCond .ne 8, 3) := by decide +kernel
theorem dX12_isStopped_54 : decode cX12_isStopped 54 = .ok (.iload 6, 2) := by decide +kernel
theorem dX12_isStopped_56 : decode cX12_isStopped 56 = .ok (.ifCond .eq 7, 3) := by decide +kernel
theorem dX12_isStopped_59 : decode cX12_isStopped 59 = .ok (.iconst 1, 1) := by decide +kernel
theorem dX12_isStopped_60 : decode cX12_isStopped 60 = .ok (.goto 4, 3) := by decide +kernel
theorem dX12_isStopped_63 : decode cX12_isStopped 63 = .ok (.iconst 0, 1) := by decide +kernel
theorem dX12_isStopped_64 : decode cX12_isStopped 64 = .ok (.ireturn, 1) := by decide +kernel
theorem dX12_courts_0 : decode cX12_courts 0 = .ok (.iload_n 1, 1) := by decide +kernel
theorem dX12_courts_1 : decode cX12_courts 1 = .ok (.invokestatic 67, 3) := by decide +kernel
theorem dX12_courts_4 : decode cX12_courts 4 = .ok (.ifCond .ne 10, 3) := by decide +kernel
theorem dX12_courts_7 : decode cX12_courts 7 = .ok (.aload_n 0, 1) := by decide +kernel
theorem dX12_courts_8 : decode cX12_courts 8 = .ok (.bipush (-2), 2) := by decide +kernel
theorem dX12_courts_10 : decode cX12_courts 10 = .ok (.invokevirtual 61, 3) := by decide +kernel
theorem dX12_courts_13 : decode cX12_courts 13 = .ok (.ireturn, 1) := by decide +kernel
theorem dX12_courts_14 : decode cX12_courts 14 = .ok (.iconst 0, 1) := by decide +kernel
theorem dX12_courts_15 : decode cX12_courts 15 = .ok (.istore_n 2, 1) := by decide +kernel
theorem dX12_courts_16 : decode cX12_courts 16 = .ok (.aload_n 0, 1) := by decide +kernel
theorem dX12_courts_17 : decode cX12_courts 17 = .ok (.invokevirtual 110, 3) := by decide +kernel
theorem dX12_courts_20 : decode cX12_courts 20 = .ok (.aload_n 0, 1) := by decide +kernel
theorem dX12_courts_21 : decode cX12_courts 21 = .ok (.iload_n 1, 1) := by decide +kernel
theorem dX12_courts_22 : decode cX12_courts 22 = .ok (.invokevirtual 116, 3) := by decide +kernel
theorem dX12_courts_25 : decode cX12_courts 25 = .ok (.istore_n 3, 1) := by decide +kernel
theorem dX12_courts_26 : decode cX12_courts 26 = .ok (.iconst 0, 1) := by decide +kernel
theorem dX12_courts_27 : decode cX12_courts 27 = .ok (.istore 4, 2) := by decide +kernel
theorem dX12_courts_29 : decode cX12_courts 29 = .ok (.iload 4, 2) := by decide +kernel
theorem dX12_courts_31 : decode cX12_courts 31 = .ok (.aload_n 0, 1) := by decide +kernel
theorem dX12_courts_32 : decode cX12_courts 32 = .ok (.invokevirtual 49, 3) := by decide +kernel
theorem dX12_courts_35 : decode cX12_courts 35 = .ok (.if_icmp .gt 119, 3) := by decide +kernel
theorem dX12_courts_38 : decode cX12_courts 38 = .ok (.iconst 0, 1) := by decide +kernel
theorem dX12_courts_39 : decode cX12_courts 39 = .ok (.istore 5, 2) := by decide +kernel
theorem dX12_courts_41 : decode cX12_courts 41 = .ok (.iload 5, 2) := by decide +kernel
theorem dX12_courts_43 : decode cX12_courts 43 = .ok (.aload_n 0, 1) := by decide +kernel
theorem dX12_courts_44 : decode cX12_courts 44 = .ok (.invokevirtual 49, 3) := by decide +kernel
theorem dX12_courts_47 : decode cX12_courts 47 = .ok (.if_icmp .gt 101, 3) := by decide +kernel
theorem dX12_courts_50 : decode cX12_courts 50 = .ok (.aload_n 0, 1) := by decide +kernel
theorem dX12_courts_51 : decode cX12_courts 51 = .ok (.iload_n 3, 1) := by decide +kernel
theorem dX12_courts_52 : decode cX12_courts 52 = .ok (.iload_n 1, 1) := by decide +kernel
theorem dX12_courts_53 : decode cX12_courts 53 = .ok (.iload 4, 2) := by decide +kernel
theorem dX12_courts_55 : decode cX12_courts 55 = .ok (.iload 5, 2) := by decide +kernel
theorem dX12_courts_57 : decode cX12_courts 57 = .ok (.invokevirtual 141, 3) := by decide +kernel
theorem dX12_courts_60 : decode cX12_courts 60 = .ok (.istore 6, 2) := by decide +kernel
theorem dX12_courts_62 : decode cX12_courts 62 = .ok (.iconst 1, 1) := by decide +kernel
theorem dX12_courts_63 : decode cX12_courts 63 = .ok (.istore 7, 2) := by decide +kernel
theorem dX12_courts_65 : decode cX12_courts 65 = .ok (.iconst 0, 1) := by decide +kernel
theorem dX12_courts_66 : decode cX12_courts 66 = .ok (.istore 8, 2) := by decide +kernel
theorem dX12_courts_68 : decode cX12_courts 68 = .ok (.iload 8, 2) := by decide +kernel
theorem dX12_courts_70 : decode cX12_courts 70 = .ok (.aload_n 0, 1) := by decide +kernel
theorem dX12_courts_71 : decode cX12_courts 71 = .ok (.invokevirtual 49, 3) := by decide +kernel
theorem dX12_courts_74 : decode cX12_courts 74 = .ok (.if_icmp .gt 55, 3) := by decide +kernel
theorem dX12_courts_77 : decode cX12_courts 77 = .ok (.iload 7, 2) := by decide +kernel
theorem dX12_courts_79 : decode cX12_courts 79 = .ok (.ifCond .eq 41, 3) := by decide +kernel
theorem dX12_courts_82 : decode cX12_courts 82 = .ok (.iload 6, 2) := by decide +kernel
theorem dX12_courts_84 : decode cX12_courts 84 = .ok (.ifCond .eq 19, 3) := by decide +kernel
theorem dX12_courts_87 : decode cX12_courts 87 = .ok (.aload_n 0, 1) := by decide +kernel
theorem dX12_courts_88 : decode cX12_courts 88 = .ok (.iload_n 3, 1) := by decide +kernel
theorem dX12_courts_89 : decode cX12_courts 89 = .ok (.iload_n 1, 1) := by decide +kernel
theorem dX12_courts_90 : decode cX12_courts 90 = .ok (.iload 8, 2) := by decide +kernel
theorem dX12_courts_92 : decode cX12_courts 92 = .ok (.iload 5, 2) := by decide +kernel
theorem dX12_courts_94 : decode cX12_courts 94 = .ok (.invokevirtual 141, 3) := by decide +kernel
theorem dX12_courts_97 : decode cX12_courts 97 = .ok (.ifCond .eq 23, 3) := by decide +kernel
theorem dX12_courts_100 : decode cX12_courts 100 = .ok (.goto 16, 3) := by decide +kernel
theorem dX12_courts_103 : decode cX12_courts 103 = .ok (.aload_n 0, 1) := by decide +kernel
theorem dX12_courts_104 : decode cX12_courts 104 = .ok (.iload_n 3, 1) := by decide +kernel
theorem dX12_courts_105 : decode cX12_courts 105 = .ok (.iload_n 1, 1) := by decide +kernel
theorem dX12_courts_106 : decode cX12_courts 106 = .ok (.iload 4, 2) := by decide +kernel
theorem dX12_courts_108 : decode cX12_courts 108 = .ok (.iload 8, 2) := by decide +kernel
theorem dX12_courts_110 : decode cX12_courts 110 = .ok (.invokevirtual 141, 3) := by decide +kernel
theorem dX12_courts_113 : decode cX12_courts 113 = .ok (.ifCond .ne 7, 3) := by decide +kernel
theorem dX12_courts_116 : decode cX12_courts 116 = .ok (.iconst 1, 1) := by decide +kernel
theorem dX12_courts_117 : decode cX12_courts 117 = .ok (.goto 4, 3) := by decide +kernel
theorem dX12_courts_120 : decode cX12_courts 120 = .ok (.iconst 0, 1) := by decide +kernel
theorem dX12_courts_121 : decode cX12_courts 121 = .ok (.istore 7, 2) := by decide +kernel
theorem dX12_courts_123 : decode cX12_courts 123 = .ok (.iinc 8 1, 3) := by decide +kernel
theorem dX12_courts_126 : decode cX12_courts 126 = .ok (.goto (-58), 3) := by decide +kernel
theorem dX12_courts_129 : decode cX12_courts 129 = .ok (.iload_n 2, 1) := by decide +kernel
theorem dX12_courts_130 : decode cX12_courts 130 = .ok (.iload 7, 2) := by decide +kernel
theorem dX12_courts_132 : decode cX12_courts 132 = .ok (.ifCond .eq 7, 3) := by decide +kernel
theorem dX12_courts_135 : decode cX12_courts 135 = .ok (.iconst 1, 1) := by decide +kernel
theorem dX12_courts_136 : decode cX12_courts 136 = .ok (.goto 4, 3) := by decide +kernel
theorem dX12_courts_139 : decode cX12_courts 139 = .ok (.iconst 0, 1) := by decide +kernel
theorem dX12_courts_140 : decode cX12_courts 140 = .ok (.iadd, 1) := by decide +kernel
theorem dX12_courts_141 : decode cX12_courts 141 = .ok (.istore_n 2, 1) := by decide +kernel
theorem dX12_courts_142 : decode cX12_courts 142 = .ok (.iinc 5 1, 3) := by decide +kernel
theorem dX12_courts_145 : decode cX12_courts 145 = .ok (.goto (-104), 3) := by decide +kernel
theorem dX12_courts_148 : decode cX12_courts 148 = .ok (.iinc 4 1, 3) := by decide +kernel
theorem dX12_courts_151 : decode cX12_courts 151 = .ok (.goto (-122), 3) := by decide +kernel
theorem dX12_courts_154 : decode cX12_courts 154 = .ok (.iload_n 2, 1) := by decide +kernel
theorem dX12_courts_155 : decode cX12_courts 155 = .ok (.ireturn, 1) := by decide +kernel
theorem dX12_gone_0 : decode cX12_gone 0 = .ok (.iload_n 1, 1) := by decide +kernel
theorem dX12_gone_1 : decode cX12_gone 1 = .ok (.i2l, 1) := by decide +kernel
theorem dX12_gone_2 : decode cX12_gone 2 = .ok (.lconst 0, 1) := by decide +kernel
theorem dX12_gone_3 : decode cX12_gone 3 = .ok (.lconst 1, 1) := by decide +kernel
theorem dX12_gone_4 : decode cX12_gone 4 = .ok (.invokestatic 53, 3) := by decide +kernel
theorem dX12_gone_7 : decode cX12_gone 7 = .ok (.ifCond .ne 10, 3) := by decide +kernel
theorem dX12_gone_10 : decode cX12_gone 10 = .ok (.aload_n 0, 1) := by decide +kernel
theorem dX12_gone_11 : decode cX12_gone 11 = .ok (.bipush (-2), 2) := by decide +kernel
theorem dX12_gone_13 : decode cX12_gone 13 = .ok (.invokevirtual 61, 3) := by decide +kernel
theorem dX12_gone_16 : decode cX12_gone 16 = .ok (.ireturn, 1) := by decide +kernel
theorem dX12_gone_17 : decode cX12_gone 17 = .ok (.iconst (-1), 1) := by decide +kernel
theorem dX12_gone_18 : decode cX12_gone 18 = .ok (.istore_n 2, 1) := by decide +kernel
theorem dX12_gone_19 : decode cX12_gone 19 = .ok (.iconst (-1), 1) := by decide +kernel
theorem dX12_gone_20 : decode cX12_gone 20 = .ok (.istore_n 3, 1) := by decide +kernel
theorem dX12_gone_21 : decode cX12_gone 21 = .ok (.aload_n 0, 1) := by decide +kernel
theorem dX12_gone_22 : decode cX12_gone 22 = .ok (.invokevirtual 110, 3) := by decide +kernel
theorem dX12_gone_25 : decode cX12_gone 25 = .ok (.aload_n 0, 1) := by decide +kernel
theorem dX12_gone_26 : decode cX12_gone 26 = .ok (.getfield 84, 3) := by decide +kernel
theorem dX12_gone_29 : decode cX12_gone 29 = .ok (.istore 4, 2) := by decide +kernel
theorem dX12_gone_31 : decode cX12_gone 31 = .ok (.iconst 0, 1) := by decide +kernel
theorem dX12_gone_32 : decode cX12_gone 32 = .ok (.istore 5, 2) := by decide +kernel
theorem dX12_gone_34 : decode cX12_gone 34 = .ok (.iload 5, 2) := by decide +kernel
theorem dX12_gone_36 : decode cX12_gone 36 = .ok (.aload_n 0, 1) := by decide +kernel
theorem dX12_gone_37 : decode cX12_gone 37 = .ok (.invokevirtual 49, 3) := by decide +kernel
theorem dX12_gone_40 : decode cX12_gone 40 = .ok (.if_icmp .ge 55, 3) := by decide +kernel
theorem dX12_gone_43 : decode cX12_gone 43 = .ok (.aload_n 0, 1) := by decide +kernel
theorem dX12_gone_44 : decode cX12_gone 44 = .ok (.iload 4, 2) := by decide +kernel
theorem dX12_gone_46 : decode cX12_gone 46 = .ok (.iconst 1, 1) := by decide +kernel
theorem dX12_gone_47 : decode cX12_gone 47 = .ok (.iload 5, 2) := by decide +kernel
theorem dX12_gone_49 : decode cX12_gone 49 = .ok (.ishl, 1) := by decide +kernel
theorem dX12_gone_50 : decode cX12_gone 50 = .ok (.ior, 1) := by decide +kernel
theorem dX12_gone_51 : decode cX12_gone 51 = .ok (.putfield 84, 3) := by decide +kernel
theorem dX12_gone_54 : decode cX12_gone 54 = .ok (.aload_n 0, 1) := by decide +kernel
theorem dX12_gone_55 : decode cX12_gone 55 = .ok (.invokevirtual 131, 3) := by decide +kernel
theorem dX12_gone_58 : decode cX12_gone 58 = .ok (.invokestatic 91, 3) := by decide +kernel
theorem dX12_gone_61 : decode cX12_gone 61 = .ok (.istore 6, 2) := by decide +kernel
theorem dX12_gone_63 : decode cX12_gone 63 = .ok (.iload 6, 2) := by decide +kernel
theorem dX12_gone_65 : decode cX12_gone 65 = .ok (.iload_n 3, 1) := by decide +kernel
theorem dX12_gone_66 : decode cX12_gone 66 = .ok (.if_icmp .le 8, 3) := by decide +kernel
theorem dX12_gone_69 : decode cX12_gone 69 = .ok (.iload 5, 2) := by decide +kernel
theorem dX12_gone_71 : decode cX12_gone 71 = .ok (.goto 4, 3) := by decide +kernel
theorem dX12_gone_74 : decode cX12_gone 74 = .ok (.iload_n 2, 1) := by decide +kernel
theorem dX12_gone_75 : decode cX12_gone 75 = .ok (.istore_n 2, 1) := by decide +kernel
theorem dX12_gone_76 : decode cX12_gone 76 = .ok (.iload 6, 2) := by decide +kernel
theorem dX12_gone_78 : decode cX12_gone 78 = .ok (.iload_n 3, 1) := by decide +kernel
theorem dX12_gone_79 : decode cX12_gone 79 = .ok (.if_icmp .le 8, 3) := by decide +kernel
theorem dX12_gone_82 : decode cX12_gone 82 = .ok (.iload 6, 2) := by decide +kernel
theorem dX12_gone_84 : decode cX12_gone 84 = .ok (.goto 4, 3) := by decide +kernel
theorem dX12_gone_87 : decode cX12_gone 87 = .ok (.iload_n 3, 1) := by decide +kernel
theorem dX12_gone_88 : decode cX12_gone 88 = .ok (.istore_n 3, 1) := by decide +kernel
theorem dX12_gone_89 : decode cX12_gone 89 = .ok (.iinc 5 1, 3) := by decide +kernel
theorem dX12_gone_92 : decode cX12_gone 92 = .ok (.goto (-58), 3) := by decide +kernel
theorem dX12_gone_95 : decode cX12_gone 95 = .ok (.iload_n 1, 1) := by decide +kernel
theorem dX12_gone_96 : decode cX12_gone 96 = .ok (.ifCond .ne 7, 3) := by decide +kernel
theorem dX12_gone_99 : decode cX12_gone 99 = .ok (.iload_n 2, 1) := by decide +kernel
theorem dX12_gone_100 : decode cX12_gone 100 = .ok (.goto 4, 3) := by decide +kernel
theorem dX12_gone_103 : decode cX12_gone 103 = .ok (.iload_n 3, 1) := by decide +kernel
theorem dX12_gone_104 : decode cX12_gone 104 = .ok (.ireturn, 1) := by decide +kernel
theorem dX12_note_0 : decode cX12_note 0 = .ok (.aload_n 0, 1) := by decide +kernel
theorem dX12_note_1 : decode cX12_note 1 = .ok (.iload_n 1, 1) := by decide +kernel
theorem dX12_note_2 : decode cX12_note 2 = .ok (.invokevirtual 123, 3) := by decide +kernel
theorem dX12_note_5 : decode cX12_note 5 = .ok (.ifCond .eq 33, 3) := by decide +kernel
theorem dX12_note_8 : decode cX12_note 8 = .ok (.iload_n 2, 1) := by decide +kernel
theorem dX12_note_9 : decode cX12_note 9 = .ok (.invokestatic 67, 3) := by decide +kernel
theorem dX12_note_12 : decode cX12_note 12 = .ok (.ifCond .eq 26, 3) := by decide +kernel
theorem dX12_note_15 : decode cX12_note 15 = .ok (.iload_n 3, 1) := by decide +kernel
theorem dX12_note_16 : decode cX12_note 16 = .ok (.i2l, 1) := by decide +kernel
theorem dX12_note_17 : decode cX12_note 17 = .ok (.lconst 0, 1) := by decide +kernel
theorem dX12_note_18 : decode cX12_note 18 = .ok (.ldc2_w 59, 3) := by decide +kernel
theorem dX12_note_21 : decode cX12_note 21 = .ok (.invokestatic 53, 3) := by decide +kernel
theorem dX12_note_24 : decode cX12_note 24 = .ok (.ifCond .eq 14, 3) := by decide +kernel
theorem dX12_note_27 : decode cX12_note 27 = .ok (.iload 4, 2) := by decide +kernel
theorem dX12_note_29 : decode cX12_note 29 = .ok (.i2l, 1) := by decide +kernel
theorem dX12_note_30 : decode cX12_note 30 = .ok (.lconst 0, 1) := by decide +kernel
theorem dX12_note_31 : decode cX12_note 31 = .ok (.lconst 1, 1) := by decide +kernel
theorem dX12_note_32 : decode cX12_note 32 = .ok (.invokestatic 53, 3) := by decide +kernel
theorem dX12_note_35 : decode cX12_note 35 = .ok (.ifCond .ne 10, 3) := by decide +kernel
theorem dX12_note_38 : decode cX12_note 38 = .ok (.aload_n 0, 1) := by decide +kernel
theorem dX12_note_39 : decode cX12_note 39 = .ok (.bipush (-2), 2) := by decide +kernel
theorem dX12_note_41 : decode cX12_note 41 = .ok (.invokevirtual 61, 3) := by decide +kernel
theorem dX12_note_44 : decode cX12_note 44 = .ok (.ireturn, 1) := by decide +kernel
theorem dX12_note_45 : decode cX12_note 45 = .ok (.aload_n 0, 1) := by decide +kernel
theorem dX12_note_46 : decode cX12_note 46 = .ok (.getfield 7, 3) := by decide +kernel
theorem dX12_note_49 : decode cX12_note 49 = .ok (.bipush 7, 2) := by decide +kernel
theorem dX12_note_51 : decode cX12_note 51 = .ok (.iaload, 1) := by decide +kernel
theorem dX12_note_52 : decode cX12_note 52 = .ok (.bipush 6, 2) := by decide +kernel
theorem dX12_note_54 : decode cX12_note 54 = .ok (.if_icmp .ne 8, 3) := by decide +kernel
theorem dX12_note_57 : decode cX12_note 57 = .ok (.aload_n 0, 1) := by decide +kernel
theorem dX12_note_58 : decode cX12_note 58 = .ok (.invokevirtual 73, 3) := by decide +kernel
theorem dX12_note_61 : decode cX12_note 61 = .ok (.ireturn, 1) := by decide +kernel
theorem dX12_note_62 : decode cX12_note 62 = .ok (.bipush 33, 2) := by decide +kernel
theorem dX12_note_64 : decode cX12_note 64 = .ok (.iconst 4, 1) := by decide +kernel
theorem dX12_note_65 : decode cX12_note 65 = .ok (.aload_n 0, 1) := by decide +kernel
theorem dX12_note_66 : decode cX12_note 66 = .ok (.getfield 7, 3) := by decide +kernel
theorem dX12_note_69 : decode cX12_note 69 = .ok (.bipush 7, 2) := by decide +kernel
theorem dX12_note_71 : decode cX12_note 71 = .ok (.iaload, 1) := by decide +kernel
theorem dX12_note_72 : decode cX12_note 72 = .ok (.imul, 1) := by decide +kernel
theorem dX12_note_73 : decode cX12_note 73 = .ok (.iadd, 1) := by decide +kernel
theorem dX12_note_74 : decode cX12_note 74 = .ok (.istore 5, 2) := by decide +kernel
theorem dX12_note_76 : decode cX12_note 76 = .ok (.aload_n 0, 1) := by decide +kernel
theorem dX12_note_77 : decode cX12_note 77 = .ok (.getfield 7, 3) := by decide +kernel
theorem dX12_note_80 : decode cX12_note 80 = .ok (.iload 5, 2) := by decide +kernel
theorem dX12_note_82 : decode cX12_note 82 = .ok (.iload_n 1, 1) := by decide +kernel
theorem dX12_note_83 : decode cX12_note 83 = .ok (.iastore, 1) := by decide +kernel
theorem dX12_note_84 : decode cX12_note 84 = .ok (.aload_n 0, 1) := by decide +kernel
theorem dX12_note_85 : decode cX12_note 85 = .ok (.getfield 7, 3) := by decide +kernel
theorem dX12_note_88 : decode cX12_note 88 = .ok (.iload 5, 2) := by decide +kernel
theorem dX12_note_90 : decode cX12_note 90 = .ok (.iconst 1, 1) := by decide +kernel
theorem dX12_note_91 : decode cX12_note 91 = .ok (.iadd, 1) := by decide +kernel
theorem dX12_note_92 : decode cX12_note 92 = .ok (.iload_n 2, 1) := by decide +kernel
theorem dX12_note_93 : decode cX12_note 93 = .ok (.iastore, 1) := by decide +kernel
theorem dX12_note_94 : decode cX12_note 94 = .ok (.aload_n 0, 1) := by decide +kernel
theorem dX12_note_95 : decode cX12_note 95 = .ok (.getfield 7, 3) := by decide +kernel
theorem dX12_note_98 : decode cX12_note 98 = .ok (.iload 5, 2) := by decide +kernel
theorem dX12_note_100 : decode cX12_note 100 = .ok (.iconst 2, 1) := by decide +kernel
theorem dX12_note_101 : decode cX12_note 101 = .ok (.iadd, 1) := by decide +kernel
theorem dX12_note_102 : decode cX12_note 102 = .ok (.iload_n 3, 1) := by decide +kernel
theorem dX12_note_103 : decode cX12_note 103 = .ok (.iastore, 1) := by decide +kernel
theorem dX12_note_104 : decode cX12_note 104 = .ok (.aload_n 0, 1) := by decide +kernel
theorem dX12_note_105 : decode cX12_note 105 = .ok (.getfield 7, 3) := by decide +kernel
theorem dX12_note_108 : decode cX12_note 108 = .ok (.iload 5, 2) := by decide +kernel
theorem dX12_note_110 : decode cX12_note 110 = .ok (.iconst 3, 1) := by decide +kernel
theorem dX12_note_111 : decode cX12_note 111 = .ok (.iadd, 1) := by decide +kernel
theorem dX12_note_112 : decode cX12_note 112 = .ok (.iload 4, 2) := by decide +kernel
theorem dX12_note_114 : decode cX12_note 114 = .ok (.iastore, 1) := by decide +kernel
theorem dX12_note_115 : decode cX12_note 115 = .ok (.aload_n 0, 1) := by decide +kernel
theorem dX12_note_116 : decode cX12_note 116 = .ok (.getfield 7, 3) := by decide +kernel
theorem dX12_note_119 : decode cX12_note 119 = .ok (.bipush 7, 2) := by decide +kernel
theorem dX12_note_121 : decode cX12_note 121 = .ok (.dup2, 1) := by decide +kernel
theorem dX12_note_122 : decode cX12_note 122 = .ok (.iaload, 1) := by decide +kernel
theorem dX12_note_123 : decode cX12_note 123 = .ok (.iconst 1, 1) := by decide +kernel
theorem dX12_note_124 : decode cX12_note 124 = .ok (.iadd, 1) := by decide +kernel
theorem dX12_note_125 : decode cX12_note 125 = .ok (.iastore, 1) := by decide +kernel
theorem dX12_note_126 : decode cX12_note 126 = .ok (.aload_n 0, 1) := by decide +kernel
theorem dX12_note_127 : decode cX12_note 127 = .ok (.getfield 7, 3) := by decide +kernel
theorem dX12_note_130 : decode cX12_note 130 = .ok (.bipush 7, 2) := by decide +kernel
theorem dX12_note_132 : decode cX12_note 132 = .ok (.iaload, 1) := by decide +kernel
theorem dX12_note_133 : decode cX12_note 133 = .ok (.ireturn, 1) := by decide +kernel
theorem dX12_forget_0 : decode cX12_forget 0 = .ok (.aload_n 0, 1) := by decide +kernel
theorem dX12_forget_1 : decode cX12_forget 1 = .ok (.getfield 7, 3) := by decide +kernel
theorem dX12_forget_4 : decode cX12_forget 4 = .ok (.bipush 7, 2) := by decide +kernel
theorem dX12_forget_6 : decode cX12_forget 6 = .ok (.iaload, 1) := by decide +kernel
theorem dX12_forget_7 : decode cX12_forget 7 = .ok (.istore_n 1, 1) := by decide +kernel
theorem dX12_forget_8 : decode cX12_forget 8 = .ok (.aload_n 0, 1) := by decide +kernel
theorem dX12_forget_9 : decode cX12_forget 9 = .ok (.getfield 7, 3) := by decide +kernel
theorem dX12_forget_12 : decode cX12_forget 12 = .ok (.bipush 7, 2) := by decide +kernel
theorem dX12_forget_14 : decode cX12_forget 14 = .ok (.iconst 0, 1) := by decide +kernel
theorem dX12_forget_15 : decode cX12_forget 15 = .ok (.iastore, 1) := by decide +kernel
theorem dX12_forget_16 : decode cX12_forget 16 = .ok (.iload_n 1, 1) := by decide +kernel
