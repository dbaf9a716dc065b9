theorem dX12_spells_79 : decode cX12_spells 79 = .ok (.iload 9, 2) := by decide +kernel
theorem dX12_spells_81 : decode cX12_spells 81 = .ok (.iconst 3, 1) := by decide +kernel
theorem dX12_spells_82 : decode cX12_spells 82 = .ok (.if_icmp .ne 8, 3) := by decide +kernel
theorem dX12_spells_85 : decode cX12_spells 85 = .ok (.iload 5, 2) := by decide +kernel
theorem dX12_spells_87 : decode cX12_spells 87 = .ok (.goto 16, 3) := by decide +kernel
theorem dX12_spells_90 : decode cX12_spells 90 = .ok (.iload 9, 2) := by decide +kernel
theorem dX12_spells_92 : decode cX12_spells 92 = .ok (.iconst 4, 1) := by decide +kernel
theorem dX12_spells_93 : decode cX12_spells 93 = .ok (.if_icmp .ne 8, 3) := by decide +kernel
theorem dX12_spells_96 : decode cX12_spells 96 = .ok (.iload 6, 2) := by decide +kernel
theorem dX12_spells_98 : decode cX12_spells 98 = .ok (.goto 5, 3) := by decide +kernel
theorem dX12_spells_101 : decode cX12_spells 101 = .ok (.iload 7, 2) := by decide +kernel
theorem dX12_spells_103 : decode cX12_spells 103 = .ok (.if_icmp .ne 7, 3) := by decide +kernel
theorem dX12_spells_106 : decode cX12_spells 106 = .ok (.iconst 1, 1) := by decide +kernel
theorem dX12_spells_107 : decode cX12_spells 107 = .ok (.goto 4, 3) := by decide +kernel
theorem dX12_spells_110 : decode cX12_spells 110 = .ok (.iconst 0, 1) := by decide +kernel
theorem dX12_spells_111 : decode cX12_spells 111 = .ok (.istore 8, 2) := by decide +kernel
theorem dX12_spells_113 : decode cX12_spells 113 = .ok (.iinc 9 1, 3) := by decide +kernel
theorem dX12_spells_116 : decode cX12_spells 116 = .ok (.goto (-90), 3) := by decide +kernel
theorem dX12_spells_119 : decode cX12_spells 119 = .ok (.iload 8, 2) := by decide +kernel
theorem dX12_spells_121 : decode cX12_spells 121 = .ok (.ireturn, 1) := by decide +kernel
theorem dX12_takes_0 : decode cX12_takes 0 = .ok (.aload_n 0, 1) := by decide +kernel
theorem dX12_takes_1 : decode cX12_takes 1 = .ok (.getfield 196, 3) := by decide +kernel
theorem dX12_takes_4 : decode cX12_takes 4 = .ok (.iconst 2, 1) := by decide +kernel
theorem dX12_takes_5 : decode cX12_takes 5 = .ok (.if_icmp .ne 18, 3) := by decide +kernel
theorem dX12_takes_8 : decode cX12_takes 8 = .ok (.aload_n 0, 1) := by decide +kernel
theorem dX12_takes_9 : decode cX12_takes 9 = .ok (.getfield 199, 3) := by decide +kernel
theorem dX12_takes_12 : decode cX12_takes 12 = .ok (.i2l, 1) := by decide +kernel
theorem dX12_takes_13 : decode cX12_takes 13 = .ok (.iload_n 2, 1) := by decide +kernel
theorem dX12_takes_14 : decode cX12_takes 14 = .ok (.i2l, 1) := by decide +kernel
theorem dX12_takes_15 : decode cX12_takes 15 = .ok (.iload_n 3, 1) := by decide +kernel
theorem dX12_takes_16 : decode cX12_takes 16 = .ok (.i2l, 1) := by decide +kernel
theorem dX12_takes_17 : decode cX12_takes 17 = .ok (.invokestatic 53, 3) := by decide +kernel
theorem dX12_takes_20 : decode cX12_takes 20 = .ok (.ifCond .ne 5, 3) := by decide +kernel
theorem dX12_takes_23 : decode cX12_takes 23 = .ok (.iconst 0, 1) := by decide +kernel
theorem dX12_takes_24 : decode cX12_takes 24 = .ok (.ireturn, 1) := by decide +kernel
theorem dX12_takes_25 : decode cX12_takes 25 = .ok (.aload_n 0, 1) := by decide +kernel
theorem dX12_takes_26 : decode cX12_takes 26 = .ok (.getfield 42, 3) := by decide +kernel
theorem dX12_takes_29 : decode cX12_takes 29 = .ok (.iload_n 1, 1) := by decide +kernel
theorem dX12_takes_30 : decode cX12_takes 30 = .ok (.aload_n 0, 1) := by decide +kernel
theorem dX12_takes_31 : decode cX12_takes 31 = .ok (.getfield 199, 3) := by decide +kernel
theorem dX12_takes_34 : decode cX12_takes 34 = .ok (.iastore, 1) := by decide +kernel
theorem dX12_takes_35 : decode cX12_takes 35 = .ok (.aload_n 0, 1) := by decide +kernel
theorem dX12_takes_36 : decode cX12_takes 36 = .ok (.invokevirtual 211, 3) := by decide +kernel
theorem dX12_takes_39 : decode cX12_takes 39 = .ok (.iconst 1, 1) := by decide +kernel
theorem dX12_takes_40 : decode cX12_takes 40 = .ok (.ireturn, 1) := by decide +kernel
theorem dX12_takesHouse_0 : decode cX12_takesHouse 0 = .ok (.aload_n 0, 1) := by decide +kernel
theorem dX12_takesHouse_1 : decode cX12_takesHouse 1 = .ok (.iconst 5, 1) := by decide +kernel
theorem dX12_takesHouse_2 : decode cX12_takesHouse 2 = .ok (.bipush 104, 2) := by decide +kernel
theorem dX12_takesHouse_4 : decode cX12_takesHouse 4 = .ok (.bipush 111, 2) := by decide +kernel
theorem dX12_takesHouse_6 : decode cX12_takesHouse 6 = .ok (.bipush 117, 2) := by decide +kernel
theorem dX12_takesHouse_8 : decode cX12_takesHouse 8 = .ok (.bipush 115, 2) := by decide +kernel
theorem dX12_takesHouse_10 : decode cX12_takesHouse 10 = .ok (.bipush 101, 2) := by decide +kernel
theorem dX12_takesHouse_12 : decode cX12_takesHouse 12 = .ok (.iconst 0, 1) := by decide +kernel
theorem dX12_takesHouse_13 : decode cX12_takesHouse 13 = .ok (.invokevirtual 214, 3) := by decide +kernel
theorem dX12_takesHouse_16 : decode cX12_takesHouse 16 = .ok (.ifCond .ne 5, 3) := by decide +kernel
theorem dX12_takesHouse_19 : decode cX12_takesHouse 19 = .ok (.iconst 0, 1) := by decide +kernel
theorem dX12_takesHouse_20 : decode cX12_takesHouse 20 = .ok (.ireturn, 1) := by decide +kernel
theorem dX12_takesHouse_21 : decode cX12_takesHouse 21 = .ok (.aload_n 0, 1) := by decide +kernel
theorem dX12_takesHouse_22 : decode cX12_takesHouse 22 = .ok (.invokevirtual 211, 3) := by decide +kernel
theorem dX12_takesHouse_25 : decode cX12_takesHouse 25 = .ok (.aload_n 0, 1) := by decide +kernel
theorem dX12_takesHouse_26 : decode cX12_takesHouse 26 = .ok (.iconst 0, 1) := by decide +kernel
theorem dX12_takesHouse_27 : decode cX12_takesHouse 27 = .ok (.iconst 0, 1) := by decide +kernel
theorem dX12_takesHouse_28 : decode cX12_takesHouse 28 = .ok (.bipush 99, 2) := by decide +kernel
theorem dX12_takesHouse_30 : decode cX12_takesHouse 30 = .ok (.invokevirtual 218, 3) := by decide +kernel
theorem dX12_takesHouse_33 : decode cX12_takesHouse 33 = .ok (.ifCond .ne 5, 3) := by decide +kernel
theorem dX12_takesHouse_36 : decode cX12_takesHouse 36 = .ok (.iconst 0, 1) := by decide +kernel
theorem dX12_takesHouse_37 : decode cX12_takesHouse 37 = .ok (.ireturn, 1) := by decide +kernel
theorem dX12_takesHouse_38 : decode cX12_takesHouse 38 = .ok (.aload_n 0, 1) := by decide +kernel
theorem dX12_takesHouse_39 : decode cX12_takesHouse 39 = .ok (.getfield 39, 3) := by decide +kernel
theorem dX12_takesHouse_42 : decode cX12_takesHouse 42 = .ok (.aload_n 0, 1) := by decide +kernel
theorem dX12_takesHouse_43 : decode cX12_takesHouse 43 = .ok (.getfield 42, 3) := by decide +kernel
theorem dX12_takesHouse_46 : decode cX12_takesHouse 46 = .ok (.iconst 0, 1) := by decide +kernel
theorem dX12_takesHouse_47 : decode cX12_takesHouse 47 = .ok (.iaload, 1) := by decide +kernel
theorem dX12_takesHouse_48 : decode cX12_takesHouse 48 = .ok (.invokestatic 45, 3) := by decide +kernel
theorem dX12_takesHouse_51 : decode cX12_takesHouse 51 = .ok (.aload_n 0, 1) := by decide +kernel
theorem dX12_takesHouse_52 : decode cX12_takesHouse 52 = .ok (.getfield 196, 3) := by decide +kernel
theorem dX12_takesHouse_55 : decode cX12_takesHouse 55 = .ok (.iconst 3, 1) := by decide +kernel
theorem dX12_takesHouse_56 : decode cX12_takesHouse 56 = .ok (.if_icmp .ne 7, 3) := by decide +kernel
theorem dX12_takesHouse_59 : decode cX12_takesHouse 59 = .ok (.iconst 1, 1) := by decide +kernel
theorem dX12_takesHouse_60 : decode cX12_takesHouse 60 = .ok (.goto 4, 3) := by decide +kernel
theorem dX12_takesHouse_63 : decode cX12_takesHouse 63 = .ok (.iconst 0, 1) := by decide +kernel
theorem dX12_takesHouse_64 : decode cX12_takesHouse 64 = .ok (.ireturn, 1) := by decide +kernel
theorem dX12_takesDeputy_0 : decode cX12_takesDeputy 0 = .ok (.aload_n 0, 1) := by decide +kernel
theorem dX12_takesDeputy_1 : decode cX12_takesDeputy 1 = .ok (.getfield 39, 3) := by decide +kernel
theorem dX12_takesDeputy_4 : decode cX12_takesDeputy 4 = .ok (.iconst 0, 1) := by decide +kernel
theorem dX12_takesDeputy_5 : decode cX12_takesDeputy 5 = .ok (.iaload, 1) := by decide +kernel
theorem dX12_takesDeputy_6 : decode cX12_takesDeputy 6 = .ok (.bipush 6, 2) := by decide +kernel
theorem dX12_takesDeputy_8 : decode cX12_takesDeputy 8 = .ok (.if_icmp .ne 5, 3) := by decide +kernel
theorem dX12_takesDeputy_11 : decode cX12_takesDeputy 11 = .ok (.iconst 0, 1) := by decide +kernel
theorem dX12_takesDeputy_12 : decode cX12_takesDeputy 12 = .ok (.ireturn, 1) := by decide +kernel
theorem dX12_takesDeputy_13 : decode cX12_takesDeputy 13 = .ok (.aload_n 0, 1) := by decide +kernel
theorem dX12_takesDeputy_14 : decode cX12_takesDeputy 14 = .ok (.invokevirtual 211, 3) := by decide +kernel
theorem dX12_takesDeputy_17 : decode cX12_takesDeputy 17 = .ok (.aload_n 0, 1) := by decide +kernel
theorem dX12_takesDeputy_18 : decode cX12_takesDeputy 18 = .ok (.iconst 0, 1) := by decide +kernel
theorem dX12_takesDeputy_19 : decode cX12_takesDeputy 19 = .ok (.iconst 0, 1) := by decide +kernel
theorem dX12_takesDeputy_20 : decode cX12_takesDeputy 20 = .ok (.iconst 5, 1) := by decide +kernel
theorem dX12_takesDeputy_21 : decode cX12_takesDeputy 21 = .ok (.invokevirtual 218, 3) := by decide +kernel
theorem dX12_takesDeputy_24 : decode cX12_takesDeputy 24 = .ok (.ifCond .eq 14, 3) := by decide +kernel
theorem dX12_takesDeputy_27 : decode cX12_takesDeputy 27 = .ok (.aload_n 0, 1) := by decide +kernel
theorem dX12_takesDeputy_28 : decode cX12_takesDeputy 28 = .ok (.iconst 1, 1) := by decide +kernel
theorem dX12_takesDeputy_29 : decode cX12_takesDeputy 29 = .ok (.iconst 0, 1) := by decide +kernel
theorem dX12_takesDeputy_30 : decode cX12_takesDeputy 30 = .ok (.bipush 40, 2) := by decide +kernel
theorem dX12_takesDeputy_32 : decode cX12_takesDeputy 32 = .ok (.invokevirtual 218, 3) := by decide +kernel
theorem dX12_takesDeputy_35 : decode cX12_takesDeputy 35 = .ok (.ifCond .ne 5, 3) := by decide +kernel
theorem dX12_takesDeputy_38 : decode cX12_takesDeputy 38 = .ok (.iconst 0, 1) := by decide +kernel
theorem dX12_takesDeputy_39 : decode cX12_takesDeputy 39 = .ok (.ireturn, 1) := by decide +kernel
theorem dX12_takesDeputy_40 : decode cX12_takesDeputy 40 = .ok (.aload_n 0, 1) := by decide +kernel
theorem dX12_takesDeputy_41 : decode cX12_takesDeputy 41 = .ok (.getfield 39, 3) := by decide +kernel
theorem dX12_takesDeputy_44 : decode cX12_takesDeputy 44 = .ok (.aload_n 0, 1) := by decide +kernel
theorem dX12_takesDeputy_45 : decode cX12_takesDeputy 45 = .ok (.getfield 42, 3) := by decide +kernel
theorem dX12_takesDeputy_48 : decode cX12_takesDeputy 48 = .ok (.iconst 0, 1) := by decide +kernel
theorem dX12_takesDeputy_49 : decode cX12_takesDeputy 49 = .ok (.iaload, 1) := by decide +kernel
theorem dX12_takesDeputy_50 : decode cX12_takesDeputy 50 = .ok (.iconst 0, 1) := by decide +kernel
theorem dX12_takesDeputy_51 : decode cX12_takesDeputy 51 = .ok (.iconst 0, 1) := by decide +kernel
theorem dX12_takesDeputy_52 : decode cX12_takesDeputy 52 = .ok (.aload_n 0, 1) := by decide +kernel
theorem dX12_takesDeputy_53 : decode cX12_takesDeputy 53 = .ok (.getfield 42, 3) := by decide +kernel
theorem dX12_takesDeputy_56 : decode cX12_takesDeputy 56 = .ok (.iconst 1, 1) := by decide +kernel
theorem dX12_takesDeputy_57 : decode cX12_takesDeputy 57 = .ok (.iaload, 1) := by decide +kernel
theorem dX12_takesDeputy_58 : decode cX12_takesDeputy 58 = .ok (.invokestatic 76, 3) := by decide +kernel
theorem dX12_takesDeputy_61 : decode cX12_takesDeputy 61 = .ok (.iconst 1, 1) := by decide +kernel
theorem dX12_takesDeputy_62 : decode cX12_takesDeputy 62 = .ok (.ireturn, 1) := by decide +kernel
theorem dX12_takesLaws_0 : decode cX12_takesLaws 0 = .ok (.iconst 0, 1) := by decide +kernel
theorem dX12_takesLaws_1 : decode cX12_takesLaws 1 = .ok (.istore_n 2, 1) := by decide +kernel
theorem dX12_takesLaws_2 : decode cX12_takesLaws 2 = .ok (.aload_n 0, 1) := by decide +kernel
theorem dX12_takesLaws_3 : decode cX12_takesLaws 3 = .ok (.getfield 196, 3) := by decide +kernel
theorem dX12_takesLaws_6 : decode cX12_takesLaws 6 = .ok (.iconst 2, 1) := by decide +kernel
theorem dX12_takesLaws_7 : decode cX12_takesLaws 7 = .ok (.if_icmp .ne 30, 3) := by decide +kernel
theorem dX12_takesLaws_10 : decode cX12_takesLaws 10 = .ok (.aload_n 0, 1) := by decide +kernel
theorem dX12_takesLaws_11 : decode cX12_takesLaws 11 = .ok (.iconst 2, 1) := by decide +kernel
theorem dX12_takesLaws_12 : decode cX12_takesLaws 12 = .ok (.iconst 0, 1) := by decide +kernel
theorem dX12_takesLaws_13 : decode cX12_takesLaws 13 = .ok (.bipush 7, 2) := by decide +kernel
theorem dX12_takesLaws_15 : decode cX12_takesLaws 15 = .ok (.invokevirtual 218, 3) := by decide +kernel
theorem dX12_takesLaws_18 : decode cX12_takesLaws 18 = .ok (.ifCond .ne 5, 3) := by decide +kernel
theorem dX12_takesLaws_21 : decode cX12_takesLaws 21 = .ok (.iconst 0, 1) := by decide +kernel
theorem dX12_takesLaws_22 : decode cX12_takesLaws 22 = .ok (.ireturn, 1) := by decide +kernel
theorem dX12_takesLaws_23 : decode cX12_takesLaws 23 = .ok (.iload_n 2, 1) := by decide +kernel
theorem dX12_takesLaws_24 : decode cX12_takesLaws 24 = .ok (.iconst 1, 1) := by decide +kernel
theorem dX12_takesLaws_25 : decode cX12_takesLaws 25 = .ok (.aload_n 0, 1) := by decide +kernel
theorem dX12_takesLaws_26 : decode cX12_takesLaws 26 = .ok (.getfield 42, 3) := by decide +kernel
theorem dX12_takesLaws_29 : decode cX12_takesLaws 29 = .ok (.iconst 2, 1) := by decide +kernel
theorem dX12_takesLaws_30 : decode cX12_takesLaws 30 = .ok (.iaload, 1) := by decide +kernel
theorem dX12_takesLaws_31 : decode cX12_takesLaws 31 = .ok (.ishl, 1) := by decide +kernel
theorem dX12_takesLaws_32 : decode cX12_takesLaws 32 = .ok (.ior, 1) := by decide +kernel
theorem dX12_takesLaws_33 : decode cX12_takesLaws 33 = .ok (.istore_n 2, 1) := by decide +kernel
theorem dX12_takesLaws_34 : decode cX12_takesLaws 34 = .ok (.goto (-32), 3) := by decide +kernel
theorem dX12_takesLaws_37 : decode cX12_takesLaws 37 = .ok (.aload_n 0, 1) := by decide +kernel
theorem dX12_takesLaws_38 : decode cX12_takesLaws 38 = .ok (.getfield 39, 3) := by decide +kernel
theorem dX12_takesLaws_41 : decode cX12_takesLaws 41 = .ok (.iload_n 1, 1) := by decide +kernel
theorem dX12_takesLaws_42 : decode cX12_takesLaws 42 = .ok (.iload_n 2, 1) := by decide +kernel
theorem dX12_takesLaws_43 : decode cX12_takesLaws 43 = .ok (.iastore, 1) := by decide +kernel
theorem dX12_takesLaws_44 : decode cX12_takesLaws 44 = .ok (.iconst 1, 1) := by decide +kernel
theorem dX12_takesLaws_45 : decode cX12_takesLaws 45 = .ok (.ireturn, 1) := by decide +kernel
theorem dX12_takesMind_0 : decode cX12_takesMind 0 = .ok (.aload_n 0, 1) := by decide +kernel
theorem dX12_takesMind_1 : decode cX12_takesMind 1 = .ok (.invokevirtual 211, 3) := by decide +kernel
theorem dX12_takesMind_4 : decode cX12_takesMind 4 = .ok (.aload_n 0, 1) := by decide +kernel
theorem dX12_takesMind_5 : decode cX12_takesMind 5 = .ok (.iconst 0, 1) := by decide +kernel
theorem dX12_takesMind_6 : decode cX12_takesMind 6 = .ok (.iconst 0, 1) := by decide +kernel
theorem dX12_takesMind_7 : decode cX12_takesMind 7 = .ok (.aload_n 0, 1) := by decide +kernel
theorem dX12_takesMind_8 : decode cX12_takesMind 8 = .ok (.getfield 39, 3) := by decide +kernel
theorem dX12_takesMind_11 : decode cX12_takesMind 11 = .ok (.iconst 0, 1) := by decide +kernel
theorem dX12_takesMind_12 : decode cX12_takesMind 12 = .ok (.iaload, 1) := by decide +kernel
theorem dX12_takesMind_13 : decode cX12_takesMind 13 = .ok (.iconst 1, 1) := by decide +kernel
theorem dX12_takesMind_14 : decode cX12_takesMind 14 = .ok (.isub, 1) := by decide +kernel
theorem dX12_takesMind_15 : decode cX12_takesMind 15 = .ok (.invokevirtual 218, 3) := by decide +kernel
theorem dX12_takesMind_18 : decode cX12_takesMind 18 = .ok (.ifCond .eq 27, 3) := by decide +kernel
theorem dX12_takesMind_21 : decode cX12_takesMind 21 = .ok (.aload_n 0, 1) := by decide +kernel
theorem dX12_takesMind_22 : decode cX12_takesMind 22 = .ok (.bipush 9, 2) := by decide +kernel
theorem dX12_takesMind_24 : decode cX12_takesMind 24 = .ok (.iconst 4, 1) := by decide +kernel
theorem dX12_takesMind_25 : decode cX12_takesMind 25 = .ok (.aload_n 0, 1) := by decide +kernel
theorem dX12_takesMind_26 : decode cX12_takesMind 26 = .ok (.getfield 42, 3) := by decide +kernel
theorem dX12_takesMind_29 : decode cX12_takesMind 29 = .ok (.iconst 0, 1) := by decide +kernel
theorem dX12_takesMind_30 : decode cX12_takesMind 30 = .ok (.iaload, 1) := by decide +kernel
theorem dX12_takesMind_31 : decode cX12_takesMind 31 = .ok (.imul, 1) := by decide +kernel
theorem dX12_takesMind_32 : decode cX12_takesMind 32 = .ok (.iadd, 1) := by decide +kernel
theorem dX12_takesMind_33 : decode cX12_takesMind 33 = .ok (.iload_n 1, 1) := by decide +kernel
theorem dX12_takesMind_34 : decode cX12_takesMind 34 = .ok (.iadd, 1) := by decide +kernel
theorem dX12_takesMind_35 : decode cX12_takesMind 35 = .ok (.invokevirtual 222, 3) := by decide +kernel
theorem dX12_takesMind_38 : decode cX12_takesMind 38 = .ok (.ifCond .eq 7, 3) := by decide +kernel
theorem dX12_takesMind_41 : decode cX12_takesMind 41 = .ok (.iconst 1, 1) := by decide +kernel
theorem dX12_takesMind_42 : decode cX12_takesMind 42 = .ok (.goto 4, 3) := by decide +kernel
theorem dX12_takesMind_45 : decode cX12_takesMind 45 = .ok (.iconst 0, 1) := by decide +kernel
theorem dX12_takesMind_46 : decode cX12_takesMind 46 = .ok (.ireturn, 1) := by decide +kernel
theorem dX12_takesItem_0 : decode cX12_takesItem 0 = .ok (.aload_n 0, 1) := by decide +kernel
theorem dX12_takesItem_1 : decode cX12_takesItem 1 = .ok (.bipush 6, 2) := by decide +kernel
theorem dX12_takesItem_3 : decode cX12_takesItem 3 = .ok (.bipush 100, 2) := by decide +kernel
theorem dX12_takesItem_5 : decode cX12_takesItem 5 = .ok (.bipush 101, 2) := by decide +kernel
theorem dX12_takesItem_7 : decode cX12_takesItem 7 = .ok (.bipush 112, 2) := by decide +kernel
theorem dX12_takesItem_9 : decode cX12_takesItem 9 = .ok (.bipush 117, 2) := by decide +kernel
theorem dX12_takesItem_11 : decode cX12_takesItem 11 = .ok (.bipush 116, 2) := by decide +kernel
theorem dX12_takesItem_13 : decode cX12_takesItem 13 = .ok (.bipush 121, 2) := by decide +kernel
theorem dX12_takesItem_15 : decode cX12_takesItem 15 = .ok (.invokevirtual 214, 3) := by decide +kernel
theorem dX12_takesItem_18 : decode cX12_takesItem 18 = .ok (.ifCond .eq 8, 3) := by decide +kernel
theorem dX12_takesItem_21 : decode cX12_takesItem 21 = .ok (.aload_n 0, 1) := by decide +kernel
theorem dX12_takesItem_22 : decode cX12_takesItem 22 = .ok (.invokevirtual 225, 3) := by decide +kernel
theorem dX12_takesItem_25 : decode cX12_takesItem 25 = .ok (.ireturn, 1) := by decide +kernel
theorem dX12_takesItem_26 : decode cX12_takesItem 26 = .ok (.aload_n 0, 1) := by decide +kernel
theorem dX12_takesItem_27 : decode cX12_takesItem 27 = .ok (.iconst 4, 1) := by decide +kernel
theorem dX12_takesItem_28 : decode cX12_takesItem 28 = .ok (.bipush 108, 2) := by decide +kernel
theorem dX12_takesItem_30 : decode cX12_takesItem 30 = .ok (.bipush 111, 2) := by decide +kernel
theorem dX12_takesItem_32 : decode cX12_takesItem 32 = .ok (.bipush 118, 2) := by decide +kernel
theorem dX12_takesItem_34 : decode cX12_takesItem 34 = .ok (.bipush 101, 2) := by decide +kernel
theorem dX12_takesItem_36 : decode cX12_takesItem 36 = .ok (.iconst 0, 1) := by decide +kernel
theorem dX12_takesItem_37 : decode cX12_takesItem 37 = .ok (.iconst 0, 1) := by decide +kernel
theorem dX12_takesItem_38 : decode cX12_takesItem 38 = .ok (.invokevirtual 214, 3) := by decide +kernel
theorem dX12_takesItem_41 : decode cX12_takesItem 41 = .ok (.ifCond .eq 9, 3) := by decide +kernel
theorem dX12_takesItem_44 : decode cX12_takesItem 44 = .ok (.aload_n 0, 1) := by decide +kernel
theorem dX12_takesItem_45 : decode cX12_takesItem 45 = .ok (.iconst 1, 1) := by decide +kernel
theorem dX12_takesItem_46 : decode cX12_takesItem 46 = .ok (.invokevirtual 229, 3) := by decide +kernel
theorem dX12_takesItem_49 : decode cX12_takesItem 49 = .ok (.ireturn, 1) := by decide +kernel
theorem dX12_takesItem_50 : decode cX12_takesItem 50 = .ok (.aload_n 0, 1) := by decide +kernel
theorem dX12_takesItem_51 : decode cX12_takesItem 51 = .ok (.iconst 4, 1) := by decide +kernel
theorem dX12_takesItem_52 : decode cX12_takesItem 52 = .ok (.bipush 104, 2) := by decide +kernel
theorem dX12_takesItem_54 : decode cX12_takesItem 54 = .ok (.bipush 97, 2) := by decide +kernel
theorem dX12_takesItem_56 : decode cX12_takesItem 56 = .ok (.bipush 116, 2) := by decide +kernel
theorem dX12_takesItem_58 : decode cX12_takesItem 58 = .ok (.bipush 101, 2) := by decide +kernel
theorem dX12_takesItem_60 : decode cX12_takesItem 60 = .ok (.iconst 0, 1) := by decide +kernel
theorem dX12_takesItem_61 : decode cX12_takesItem 61 = .ok (.iconst 0, 1) := by decide +kernel
theorem dX12_takesItem_62 : decode cX12_takesItem 62 = .ok (.invokevirtual 214, 3) := by decide +kernel
theorem dX12_takesItem_65 : decode cX12_takesItem 65 = .ok (.ifCond .eq 9, 3) := by decide +kernel
theorem dX12_takesItem_68 : decode cX12_takesItem 68 = .ok (.aload_n 0, 1) := by decide +kernel
theorem dX12_takesItem_69 : decode cX12_takesItem 69 = .ok (.iconst 2, 1) := by decide +kernel
theorem dX12_takesItem_70 : decode cX12_takesItem 70 = .ok (.invokevirtual 229, 3) := by decide +kernel
theorem dX12_takesItem_73 : decode cX12_takesItem 73 = .ok (.ireturn, 1) := by decide +kernel
theorem dX12_takesItem_74 : decode cX12_takesItem 74 = .ok (.aload_n 0, 1) := by decide +kernel
theorem dX12_takesItem_75 : decode cX12_takesItem 75 = .ok (.iconst 3, 1) := by decide +kernel
theorem dX12_takesItem_76 : decode cX12_takesItem 76 = .ok (.bipush 108, 2) := by decide +kernel
theorem dX12_takesItem_78 : decode cX12_takesItem 78 = .ok (.bipush 97, 2) := by decide +kernel
theorem dX12_takesItem_80 : decode cX12_takesItem 80 = .ok (.bipush 119, 2) := by decide +kernel
theorem dX12_takesItem_82 : decode cX12_takesItem 82 = .ok (.iconst 0, 1) := by decide +kernel
theorem dX12_takesItem_83 : decode cX12_takesItem 83 = .ok (.iconst 0, 1) := by decide +kernel
theorem dX12_takesItem_84 : decode cX12_takesItem 84 = .ok (.iconst 0, 1) := by decide +kernel
theorem dX12_takesItem_85 : decode cX12_takesItem 85 = .ok (.invokevirtual 214, 3) := by decide +kernel
theorem dX12_takesItem_88 : decode cX12_takesItem 88 = .ok (.ifCond .ne 5, 3) := by decide +kernel
theorem dX12_takesItem_91 : decode cX12_takesItem 91 = .ok (.iconst 0, 1) := by decide +kernel
theorem dX12_takesItem_92 : decode cX12_takesItem 92 = .ok (.ireturn, 1) := by decide +kernel
theorem dX12_takesItem_93 : decode cX12_takesItem 93 = .ok (.aload_n 0, 1) := by decide +kernel
theorem dX12_takesItem_94 : decode cX12_takesItem 94 = .ok (.invokevirtual 211, 3) := by decide +kernel
theorem dX12_takesItem_97 : decode cX12_takesItem 97 = .ok (.aload_n 0, 1) := by decide +kernel
theorem dX12_takesItem_98 : decode cX12_takesItem 98 = .ok (.iconst 2, 1) := by decide +kernel
theorem dX12_takesItem_99 : decode cX12_takesItem 99 = .ok (.invokevirtual 222, 3) := by decide +kernel
theorem dX12_takesItem_102 : decode cX12_takesItem 102 = .ok (.ireturn, 1) := by decide +kernel
theorem dX12_read_0 : decode cX12_read 0 = .ok (.aload_n 0, 1) := by decide +kernel
theorem dX12_read_1 : decode cX12_read 1 = .ok (.iconst 0, 1) := by decide +kernel
theorem dX12_read_2 : decode cX12_read 2 = .ok (.invokevirtual 208, 3) := by decide +kernel
theorem dX12_read_5 : decode cX12_read 5 = .ok (.aload_n 0, 1) := by decide +kernel
theorem dX12_read_6 : decode cX12_read 6 = .ok (.invokevirtual 232, 3) := by decide +kernel
theorem dX12_read_9 : decode cX12_read 9 = .ok (.ifCond .ne 11, 3) := by decide +kernel
theorem dX12_read_12 : decode cX12_read 12 = .ok (.bipush (-10), 2) := by decide +kernel
theorem dX12_read_14 : decode cX12_read 14 = .ok (.aload_n 0, 1) := by decide +kernel
theorem dX12_read_15 : decode cX12_read 15 = .ok (.getfield 190, 3) := by decide +kernel
theorem dX12_read_18 : decode cX12_read 18 = .ok (.isub, 1) := by decide +kernel
theorem dX12_read_19 : decode cX12_read 19 = .ok (.ireturn, 1) := by decide +kernel
theorem dX12_read_20 : decode cX12_read 20 = .ok (.aload_n 0, 1) := by decide +kernel
theorem dX12_read_21 : decode cX12_read 21 = .ok (.invokevirtual 211, 3) := by decide +kernel
theorem dX12_read_24 : decode cX12_read 24 = .ok (.iconst 1, 1) := by decide +kernel
theorem dX12_read_25 : decode cX12_read 25 = .ok (.istore_n 1, 1) := by decide +kernel
theorem dX12_read_26 : decode cX12_read 26 = .ok (.aload_n 0, 1) := by decide +kernel
theorem dX12_read_27 : decode cX12_read 27 = .ok (.getfield 196, 3) := by decide +kernel
theorem dX12_read_30 : decode cX12_read 30 = .ok (.ifCond .eq 36, 3) := by decide +kernel
theorem dX12_read_33 : decode cX12_read 33 = .ok (.aload_n 0, 1) := by decide +kernel
theorem dX12_read_34 : decode cX12_read 34 = .ok (.invokevirtual 235, 3) := by decide +kernel
theorem dX12_read_37 : decode cX12_read 37 = .ok (.ifCond .eq 11, 3) := by decide +kernel
theorem dX12_read_40 : decode cX12_read 40 = .ok (.aload_n 0, 1) := by decide +kernel
theorem dX12_read_41 : decode cX12_read 41 = .ok (.getfield 196, 3) := by decide +kernel
theorem dX12_read_44 : decode cX12_read 44 = .ok (.iconst 3, 1) := by decide +kernel
theorem dX12_read_45 : decode cX12_read 45 = .ok (.if_icmp .eq 11, 3) := by decide +kernel
theorem dX12_read_48 : decode cX12_read 48 = .ok (.bipush (-10), 2) := by decide +kernel
theorem dX12_read_50 : decode cX12_read 50 = .ok (.aload_n 0, 1) := by decide +kernel
theorem dX12_read_51 : decode cX12_read 51 = .ok (.getfield 190, 3) := by decide +kernel
theorem dX12_read_54 : decode cX12_read 54 = .ok (.isub, 1) := by decide +kernel
theorem dX12_read_55 : decode cX12_read 55 = .ok (.ireturn, 1) := by decide +kernel
theorem dX12_read_56 : decode cX12_read 56 = .ok (.aload_n 0, 1) := by decide +kernel
theorem dX12_read_57 : decode cX12_read 57 = .ok (.invokevirtual 211, 3) := by decide +kernel
theorem dX12_read_60 : decode cX12_read 60 = .ok (.iinc 1 1, 3) := by decide +kernel
theorem dX12_read_63 : decode cX12_read 63 = .ok (.goto (-37), 3) := by decide +kernel
theorem dX12_read_66 : decode cX12_read 66 = .ok (.iconst 0, 1) := by decide +kernel
theorem dX12_read_67 : decode cX12_read 67 = .ok (.istore_n 2, 1) := by decide +kernel
theorem dX12_read_68 : decode cX12_read 68 = .ok (.iload_n 2, 1) := by decide +kernel
theorem dX12_read_69 : decode cX12_read 69 = .ok (.bipush 57, 2) := by decide +kernel
theorem dX12_read_71 : decode cX12_read 71 = .ok (.if_icmp .ge 21, 3) := by decide +kernel
theorem dX12_read_74 : decode cX12_read 74 = .ok (.aload_n 0, 1) := by decide +kernel
theorem dX12_read_75 : decode cX12_read 75 = .ok (.getfield 7, 3) := by decide +kernel
theorem dX12_read_78 : decode cX12_read 78 = .ok (.iload_n 2, 1) := by decide +kernel
theorem dX12_read_79 : decode cX12_read 79 = .ok (.aload_n 0, 1) := by decide +kernel
theorem dX12_read_80 : decode cX12_read 80 = .ok (.getfield 39, 3) := by decide +kernel
theorem dX12_read_83 : decode cX12_read 83 = .ok (.iload_n 2, 1) := by decide +kernel
theorem dX12_read_84 : decode cX12_read 84 = .ok (.iaload, 1) := by decide +kernel
theorem dX12_read_85 : decode cX12_read 85 = .ok (.iastore, 1) := by decide +kernel
theorem dX12_read_86 : decode cX12_read 86 = .ok (.iinc 2 1, 3) := by decide +kernel
theorem dX12_read_89 : decode cX12_read 89 = .ok (.goto (-21), 3) := by decide +kernel
theorem dX12_read_92 : decode cX12_read 92 = .ok (.iload_n 1, 1) := by decide +kernel
theorem dX12_read_93 : decode cX12_read 93 = .ok (.ireturn, 1) := by decide +kernel
theorem dX12_part_0 : decode cX12_part 0 = .ok (.iload_n 1, 1) := by decide +kernel
theorem dX12_part_1 : decode cX12_part 1 = .ok (.ifCond .ne 10, 3) := by decide +kernel
theorem dX12_part_4 : decode cX12_part 4 = .ok (.aload_n 0, 1) := by decide +kernel
theorem dX12_part_5 : decode cX12_part 5 = .ok (.getfield 154, 3) := by decide +kernel
theorem dX12_part_8 : decode cX12_part 8 = .ok (.goto 22, 3) := by decide +kernel
theorem dX12_part_11 : decode cX12_part 11 = .ok (.iload_n 1, 1) := by decide +kernel
theorem dX12_part_12 : decode cX12_part 12 = .ok (.iconst 1, 1) := by decide +kernel
theorem dX12_part_13 : decode cX12_part 13 = .ok (.if_icmp .ne 10, 3) := by decide +kernel
theorem dX12_part_16 : decode cX12_part 16 = .ok (.aload_n 0, 1) := by decide +kernel
theorem dX12_part_17 : decode cX12_part 17 = .ok (.getfield 23, 3) := by decide +kernel
theorem dX12_part_20 : decode cX12_part 20 = .ok (.goto 10, 3) := by decide +kernel
theorem dX12_part_23 : decode cX12_part 23 = .ok (.aload_n 0, 1) := by decide +kernel
theorem dX12_part_24 : decode cX12_part 24 = .ok (.bipush (-2), 2) := by decide +kernel
theorem dX12_part_26 : decode cX12_part 26 = .ok (.invokevirtual 61, 3) := by decide +kernel
theorem dX12_part_29 : decode cX12_part 29 = .ok (.i2l, 1) := by decide +kernel
theorem dX12_part_30 : decode cX12_part 30 = .ok (.lreturn, 1) := by decide +kernel
theorem dX12_image_0 : decode cX12_image 0 = .ok (.iload_n 1, 1) := by decide +kernel
theorem dX12_image_1 : decode cX12_image 1 = .ok (.i2l, 1) := by decide +kernel
theorem dX12_image_2 : decode cX12_image 2 = .ok (.lconst 0, 1) := by decide +kernel
theorem dX12_image_3 : decode cX12_image 3 = .ok (.lconst 1, 1) := by decide +kernel
theorem dX12_image_4 : decode cX12_image 4 = .ok (.invokestatic 53, 3) := by decide +kernel
theorem dX12_image_7 : decode cX12_image 7 = .ok (.ifCond .ne 10, 3) := by decide +kernel
theorem dX12_image_10 : decode cX12_image 10 = .ok (.aload_n 0, 1) := by decide +kernel
theorem dX12_image_11 : decode cX12_image 11 = .ok (.bipush (-2), 2) := by decide +kernel
theorem dX12_image_13 : decode cX12_image 13 = .ok (.invokevirtual 61, 3) := by decide +kernel
theorem dX12_image_16 : decode cX12_image 16 = .ok (.ireturn, 1) := by decide +kernel
theorem dX12_image_17 : decode cX12_image 17 = .ok (.iconst 0, 1) := by decide +kernel
theorem dX12_image_18 : decode cX12_image 18 = .ok (.istore_n 2, 1) := by decide +kernel
theorem dX12_image_19 : decode cX12_image 19 = .ok (.iload_n 2, 1) := by decide +kernel
theorem dX12_image_20 : decode cX12_image 20 = .ok (.bipush 105, 2) := by decide +kernel
theorem dX12_image_22 : decode cX12_image 22 = .ok (.if_icmp .ge 26, 3) := by decide +kernel
theorem dX12_image_25 : decode cX12_image 25 = .ok (.aload_n 0, 1) := by decide +kernel
theorem dX12_image_26 : decode cX12_image 26 = .ok (.getfield 13, 3) := by decide +kernel
theorem dX12_image_29 : decode cX12_image 29 = .ok (.bipush 105, 2) := by decide +kernel
theorem dX12_image_31 : decode cX12_image 31 = .ok (.iload_n 1, 1) := by decide +kernel
theorem dX12_image_32 : decode cX12_image 32 = .ok (.imul, 1) := by decide +kernel
theorem dX12_image_33 : decode cX12_image 33 = .ok (.iload_n 2, 1) := by decide +kernel
theorem dX12_image_34 : decode cX12_image 34 = .ok (.iadd, 1) := by decide +kernel
theorem dX12_image_35 : decode cX12_image 35 = .ok (.aload_n 0, 1) := by decide +kernel
theorem dX12_image_36 : decode cX12_image 36 = .ok (.getfield 7, 3) := by decide +kernel
theorem dX12_image_39 : decode cX12_image 39 = .ok (.iload_n 2, 1) := by decide +kernel
theorem dX12_image_40 : decode cX12_image 40 = .ok (.iaload, 1) := by decide +kernel
theorem dX12_image_41 : decode cX12_image 41 = .ok (.iastore, 1) := by decide +kernel
theorem dX12_image_42 : decode cX12_image 42 = .ok (.iinc 2 1, 3) := by decide +kernel
theorem dX12_image_45 : decode cX12_image 45 = .ok (.goto (-26), 3) := by decide +kernel
theorem dX12_image_48 : decode cX12_image 48 = .ok (.aload_n 0, 1) := by decide +kernel
theorem dX12_image_49 : decode cX12_image 49 = .ok (.getfield 16, 3) := by decide +kernel
theorem dX12_image_52 : decode cX12_image 52 = .ok (.iload_n 1, 1) := by decide +kernel
theorem dX12_image_53 : decode cX12_image 53 = .ok (.iconst 1, 1) := by decide +kernel
theorem dX12_image_54 : decode cX12_image 54 = .ok (.bastore, 1) := by decide +kernel
theorem dX12_image_55 : decode cX12_image 55 = .ok (.iconst 1, 1) := by decide +kernel
theorem dX12_image_56 : decode cX12_image 56 = .ok (.ireturn, 1) := by decide +kernel
theorem dX12_from_0 : decode cX12_from 0 = .ok (.iload_n 1, 1) := by decide +kernel
theorem dX12_from_1 : decode cX12_from 1 = .ok (.i2l, 1) := by decide +kernel
theorem dX12_from_2 : decode cX12_from 2 = .ok (.lconst 0, 1) := by decide +kernel
theorem dX12_from_3 : decode cX12_from 3 = .ok (.lconst 1, 1) := by decide +kernel
theorem dX12_from_4 : decode cX12_from 4 = .ok (.invokestatic 53, 3) := by decide +kernel
theorem dX12_from_7 : decode cX12_from 7 = .ok (.ifCond .ne 10, 3) := by decide +kernel
theorem dX12_from_10 : decode cX12_from 10 = .ok (.aload_n 0, 1) := by decide +kernel
theorem dX12_from_11 : decode cX12_from 11 = .ok (.bipush (-2), 2) := by decide +kernel
theorem dX12_from_13 : decode cX12_from 13 = .ok (.invokevirtual 61, 3) := by decide +kernel
theorem dX12_from_16 : decode cX12_from 16 = .ok (.ireturn, 1) := by decide +kernel
theorem dX12_from_17 : decode cX12_from 17 = .ok (.aload_n 0, 1) := by decide +kernel
theorem dX12_from_18 : decode cX12_from 18 = .ok (.getfield 16, 3) := by decide +kernel
theorem dX12_from_21 : decode cX12_from 21 = .ok (.iload_n 1, 1) := by decide +kernel
theorem dX12_from_22 : decode cX12_from 22 = .ok (.baload, 1) := by decide +kernel
theorem dX12_from_23 : decode cX12_from 23 = .ok (.ifCond .ne 8, 3) := by decide +kernel
theorem dX12_from_26 : decode cX12_from 26 = .ok (.aload_n 0, 1) := by decide +kernel
theorem dX12_from_27 : decode cX12_from 27 = .ok (.invokevirtual 107, 3) := by decide +kernel
theorem dX12_from_30 : decode cX12_from 30 = .ok (.ireturn, 1) := by decide +kernel
theorem dX12_from_31 : decode cX12_from 31 = .ok (.iconst 0, 1) := by decide +kernel
theorem dX12_from_32 : decode cX12_from 32 = .ok (.istore_n 2, 1) := by decide +kernel
theorem dX12_from_33 : decode cX12_from 33 = .ok (.iload_n 2, 1) := by decide +kernel
theorem dX12_from_34 : decode cX12_from 34 = .ok (.bipush 105, 2) := by decide +kernel
theorem dX12_from_36 : decode cX12_from 36 = .ok (.if_icmp .ge 26, 3) := by decide +kernel
theorem dX12_from_39 : decode cX12_from 39 = .ok (.aload_n 0, 1) := by decide +kernel
theorem dX12_from_40 : decode cX12_from 40 = .ok (.getfield 7, 3) := by decide +kernel
theorem dX12_from_43 : decode cX12_from 43 = .ok (.iload_n 2, 1) := by decide +kernel
theorem dX12_from_44 : decode cX12_from 44 = .ok (.aload_n 0, 1) := by decide +kernel
theorem dX12_from_45 : decode cX12_from 45 = .ok (.getfield 13, 3) := by decide +kernel
theorem dX12_from_48 : decode cX12_from 48 = .ok (.bipush 105, 2) := by decide +kernel
theorem dX12_from_50 : decode cX12_from 50 = .ok (.iload_n 1, 1) := by decide +kernel
theorem dX12_from_51 : decode cX12_from 51 = .ok (.imul, 1) := by decide +kernel
theorem dX12_from_52 : decode cX12_from 52 = .ok (.iload_n 2, 1) := by decide +kernel
theorem dX12_from_53 : decode cX12_from 53 = .ok (.iadd, 1) := by decide +kernel
theorem dX12_from_54 : decode cX12_from 54 = .ok (.iaload, 1) := by decide +kernel
theorem dX12_from_55 : decode cX12_from 55 = .ok (.iastore, 1) := by decide +kernel
theorem dX12_from_56 : decode cX12_from 56 = .ok (.iinc 2 1, 3) := by decide +kernel
theorem dX12_from_59 : decode cX12_from 59 = .ok (.goto (-26), 3) := by decide +kernel
theorem dX12_from_62 : decode cX12_from 62 = .ok (.iconst 1, 1) := by decide +kernel
theorem dX12_from_63 : decode cX12_from 63 = .ok (.ireturn, 1) := by decide +kernel
theorem dX12_status_0 : decode cX12_status 0 = .ok (.iload_n 1, 1) := by decide +kernel
theorem dX12_status_1 : decode cX12_status 1 = .ok (.i2l, 1) := by decide +kernel
theorem dX12_status_2 : decode cX12_status 2 = .ok (.lconst 0, 1) := by decide +kernel
theorem dX12_status_3 : decode cX12_status 3 = .ok (.ldc2_w 136, 3) := by decide +kernel
theorem dX12_status_6 : decode cX12_status 6 = .ok (.invokestatic 53, 3) := by decide +kernel
theorem dX12_status_9 : decode cX12_status 9 = .ok (.ifCond .eq 12, 3) := by decide +kernel
theorem dX12_status_12 : decode cX12_status 12 = .ok (.aload_n 0, 1) := by decide +kernel
theorem dX12_status_13 : decode cX12_status 13 = .ok (.getfield 20, 3) := by decide +kernel
theorem dX12_status_16 : decode cX12_status 16 = .ok (.iload_n 1, 1) := by decide +kernel
theorem dX12_status_17 : decode cX12_status 17 = .ok (.iaload, 1) := by decide +kernel
theorem dX12_status_18 : decode cX12_status 18 = .ok (.goto 8, 3) := by decide +kernel
theorem dX12_status_21 : decode cX12_status 21 = .ok (.aload_n 0, 1) := by decide +kernel
theorem dX12_status_22 : decode cX12_status 22 = .ok (.iconst (-1), 1) := by decide +kernel
theorem dX12_status_23 : decode cX12_status 23 = .ok (.invokevirtual 61, 3) := by decide +kernel
theorem dX12_status_26 : decode cX12_status 26 = .ok (.ireturn, 1) := by decide +kernel
theorem dX12_counted_0 : decode cX12_counted 0 = .ok (.iload_n 1, 1) := by decide +kernel
theorem dX12_counted_1 : decode cX12_counted 1 = .ok (.tableswitch 99 0 6 #[43, 48, 56, 66, 76, 83, 91], 43) := by decide +kernel
theorem dX12_counted_44 : decode cX12_counted 44 = .ok (.aload_n 0, 1) := by decide +kernel
theorem dX12_counted_45 : decode cX12_counted 45 = .ok (.invokevirtual 49, 3) := by decide +kernel
theorem dX12_counted_48 : decode cX12_counted 48 = .ok (.ireturn, 1) := by decide +kernel
theorem dX12_counted_49 : decode cX12_counted 49 = .ok (.aload_n 0, 1) := by decide +kernel
theorem dX12_counted_50 : decode cX12_counted 50 = .ok (.getfield 7, 3) := by decide +kernel
theorem dX12_counted_53 : decode cX12_counted 53 = .ok (.bipush 6, 2) := by decide +kernel
theorem dX12_counted_55 : decode cX12_counted 55 = .ok (.iaload, 1) := by decide +kernel
theorem dX12_counted_56 : decode cX12_counted 56 = .ok (.ireturn, 1) := by decide +kernel
theorem dX12_counted_57 : decode cX12_counted 57 = .ok (.aload_n 0, 1) := by decide +kernel
theorem dX12_counted_58 : decode cX12_counted 58 = .ok (.getfield 7, 3) := by decide +kernel
theorem dX12_counted_61 : decode cX12_counted 61 = .ok (.iconst 2, 1) := by decide +kernel
theorem dX12_counted_62 : decode cX12_counted 62 = .ok (.iaload, 1) := by decide +kernel
theorem dX12_counted_63 : decode cX12_counted 63 = .ok (.invokestatic 91, 3) := by decide +kernel
theorem dX12_counted_66 : decode cX12_counted 66 = .ok (.ireturn, 1) := by decide +kernel
theorem dX12_counted_67 : decode cX12_counted 67 = .ok (.aload_n 0, 1) := by decide +kernel
theorem dX12_counted_68 : decode cX12_counted 68 = .ok (.getfield 7, 3) := by decide +kernel
theorem dX12_counted_71 : decode cX12_counted 71 = .ok (.iconst 1, 1) := by decide +kernel
theorem dX12_counted_72 : decode cX12_counted 72 = .ok (.iaload, 1) := by decide +kernel
theorem dX12_counted_73 : decode cX12_counted 73 = .ok (.invokestatic 91, 3) := by decide +kernel
theorem dX12_counted_76 : decode cX12_counted 76 = .ok (.ireturn, 1) := by decide +kernel
theorem dX12_counted_77 : decode cX12_counted 77 = .ok (.aload_n 0, 1) := by decide +kernel
theorem dX12_counted_78 : decode cX12_counted 78 = .ok (.getfield 7, 3) := by decide +kernel
theorem dX12_counted_81 : decode cX12_counted 81 = .ok (.iconst 5, 1) := by decide +kernel
theorem dX12_counted_82 : decode cX12_counted 82 = .ok (.iaload, 1) := by decide +kernel
theorem dX12_counted_83 : decode cX12_counted 83 = .ok (.ireturn, 1) := by decide +kernel
theorem dX12_counted_84 : decode cX12_counted 84 = .ok (.aload_n 0, 1) := by decide +kernel
theorem dX12_counted_85 : decode cX12_counted 85 = .ok (.getfield 7, 3) := by decide +kernel
theorem dX12_counted_88 : decode cX12_counted 88 = .ok (.bipush 7, 2) := by decide +kernel
theorem dX12_counted_90 : decode cX12_counted 90 = .ok (.iaload, 1) := by decide +kernel
theorem dX12_counted_91 : decode cX12_counted 91 = .ok (.ireturn, 1) := by decide +kernel
theorem dX12_counted_92 : decode cX12_counted 92 = .ok (.aload_n 0, 1) := by decide +kernel
theorem dX12_counted_93 : decode cX12_counted 93 = .ok (.getfield 7, 3) := by decide +kernel
theorem dX12_counted_96 : decode cX12_counted 96 = .ok (.bipush 8, 2) := by decide +kernel
theorem dX12_counted_98 : decode cX12_counted 98 = .ok (.iaload, 1) := by decide +kernel
theorem dX12_counted_99 : decode cX12_counted 99 = .ok (.ireturn, 1) := by decide +kernel
theorem dX12_counted_100 : decode cX12_counted 100 = .ok (.aload_n 0, 1) := by decide +kernel
theorem dX12_counted_101 : decode cX12_counted 101 = .ok (.getfield 179, 3) := by decide +kernel
theorem dX12_counted_104 : decode cX12_counted 104 = .ok (.ireturn, 1) := by decide +kernel
theorem dX12_count_0 : decode cX12_count 0 = .ok (.iload_n 1, 1) := by decide +kernel
theorem dX12_count_1 : decode cX12_count 1 = .ok (.i2l, 1) := by decide +kernel
theorem dX12_count_2 : decode cX12_count 2 = .ok (.lconst 0, 1) := by decide +kernel
theorem dX12_count_3 : decode cX12_count 3 = .ok (.ldc2_w 151, 3) := by decide +kernel
theorem dX12_count_6 : decode cX12_count 6 = .ok (.invokestatic 53, 3) := by decide +kernel
theorem dX12_count_9 : decode cX12_count 9 = .ok (.ifCond .eq 11, 3) := by decide +kernel
theorem dX12_count_12 : decode cX12_count 12 = .ok (.aload_n 0, 1) := by decide +kernel
theorem dX12_count_13 : decode cX12_count 13 = .ok (.iload_n 1, 1) := by decide +kernel
theorem dX12_count_14 : decode cX12_count 14 = .ok (.invokevirtual 238, 3) := by decide +kernel
theorem dX12_count_17 : decode cX12_count 17 = .ok (.goto 9, 3) := by decide +kernel
theorem dX12_count_20 : decode cX12_count 20 = .ok (.aload_n 0, 1) := by decide +kernel
theorem dX12_count_21 : decode cX12_count 21 = .ok (.bipush (-2), 2) := by decide +kernel
theorem dX12_count_23 : decode cX12_count 23 = .ok (.invokevirtual 61, 3) := by decide +kernel
theorem dX12_count_26 : decode cX12_count 26 = .ok (.ireturn, 1) := by decide +kernel
theorem dX12_sums_0 : decode cX12_sums 0 = .ok (.lload_n 1, 1) := by decide +kernel
theorem dX12_sums_1 : decode cX12_sums 1 = .ok (.lstore 5, 2) := by decide +kernel
theorem dX12_sums_3 : decode cX12_sums 3 = .ok (.iconst 0, 1) := by decide +kernel
theorem dX12_sums_4 : decode cX12_sums 4 = .ok (.istore 7, 2) := by decide +kernel
theorem dX12_sums_6 : decode cX12_sums 6 = .ok (.iload 7, 2) := by decide +kernel
theorem dX12_sums_8 : decode cX12_sums 8 = .ok (.iload 4, 2) := by decide +kernel
theorem dX12_sums_10 : decode cX12_sums 10 = .ok (.if_icmp .ge 28, 3) := by decide +kernel
theorem dX12_sums_13 : decode cX12_sums 13 = .ok (.ldc2_w 241, 3) := by decide +kernel
theorem dX12_sums_16 : decode cX12_sums 16 = .ok (.lload 5, 2) := by decide +kernel
theorem dX12_sums_18 : decode cX12_sums 18 = .ok (.lmul, 1) := by decide +kernel
theorem dX12_sums_19 : decode cX12_sums 19 = .ok (.aload_n 0, 1) := by decide +kernel
theorem dX12_sums_20 : decode cX12_sums 20 = .ok (.getfield 7, 3) := by decide +kernel
theorem dX12_sums_23 : decode cX12_sums 23 = .ok (.iload_n 3, 1) := by decide +kernel
theorem dX12_sums_24 : decode cX12_sums 24 = .ok (.iload 7, 2) := by decide +kernel
theorem dX12_sums_26 : decode cX12_sums 26 = .ok (.iadd, 1) := by decide +kernel
theorem dX12_sums_27 : decode cX12_sums 27 = .ok (.iaload, 1) := by decide +kernel
theorem dX12_sums_28 : decode cX12_sums 28 = .ok (.i2l, 1) := by decide +kernel
theorem dX12_sums_29 : decode cX12_sums 29 = .ok (.ladd, 1) := by decide +kernel
theorem dX12_sums_30 : decode cX12_sums 30 = .ok (.lstore 5, 2) := by decide +kernel
theorem dX12_sums_32 : decode cX12_sums 32 = .ok (.iinc 7 1, 3) := by decide +kernel
theorem dX12_sums_35 : decode cX12_sums 35 = .ok (.goto (-29), 3) := by decide +kernel
theorem dX12_sums_38 : decode cX12_sums 38 = .ok (.lload 5, 2) := by decide +kernel
theorem dX12_sums_40 : decode cX12_sums 40 = .ok (.lreturn, 1) := by decide +kernel
theorem dX12_digest_0 : decode cX12_digest 0 = .ok (.ldc2_w 243, 3) := by decide +kernel
theorem dX12_digest_3 : decode cX12_digest 3 = .ok (.lstore_n 1, 1) := by decide +kernel
theorem dX12_digest_4 : decode cX12_digest 4 = .ok (.iconst 0, 1) := by decide +kernel
theorem dX12_digest_5 : decode cX12_digest 5 = .ok (.istore_n 3, 1) := by decide +kernel
theorem dX12_digest_6 : decode cX12_digest 6 = .ok (.iload_n 3, 1) := by decide +kernel
theorem dX12_digest_7 : decode cX12_digest 7 = .ok (.bipush 8, 2) := by decide +kernel
theorem dX12_digest_9 : decode cX12_digest 9 = .ok (.if_icmp .ge 22, 3) := by decide +kernel
theorem dX12_digest_12 : decode cX12_digest 12 = .ok (.ldc2_w 241, 3) := by decide +kernel
theorem dX12_digest_15 : decode cX12_digest 15 = .ok (.lload_n 1, 1) := by decide +kernel
theorem dX12_digest_16 : decode cX12_digest 16 = .ok (.lmul, 1) := by decide +kernel
theorem dX12_digest_17 : decode cX12_digest 17 = .ok (.aload_n 0, 1) := by decide +kernel
theorem dX12_digest_18 : decode cX12_digest 18 = .ok (.iload_n 3, 1) := by decide +kernel
theorem dX12_digest_19 : decode cX12_digest 19 = .ok (.invokevirtual 238, 3) := by decide +kernel
theorem dX12_digest_22 : decode cX12_digest 22 = .ok (.i2l, 1) := by decide +kernel
theorem dX12_digest_23 : decode cX12_digest 23 = .ok (.ladd, 1) := by decide +kernel
theorem dX12_digest_24 : decode cX12_digest 24 = .ok (.lstore_n 1, 1) := by decide +kernel
theorem dX12_digest_25 : decode cX12_digest 25 = .ok (.iinc 3 1, 3) := by decide +kernel
theorem dX12_digest_28 : decode cX12_digest 28 = .ok (.goto (-22), 3) := by decide +kernel
theorem dX12_digest_31 : decode cX12_digest 31 = .ok (.aload_n 0, 1) := by decide +kernel
theorem dX12_digest_32 : decode cX12_digest 32 = .ok (.lload_n 1, 1) := by decide +kernel
theorem dX12_digest_33 : decode cX12_digest 33 = .ok (.iconst 1, 1) := by decide +kernel
theorem dX12_digest_34 : decode cX12_digest 34 = .ok (.iconst 2, 1) := by decide +kernel
theorem dX12_digest_35 : decode cX12_digest 35 = .ok (.invokevirtual 245, 3) := by decide +kernel
theorem dX12_digest_38 : decode cX12_digest 38 = .ok (.lstore_n 1, 1) := by decide +kernel
theorem dX12_digest_39 : decode cX12_digest 39 = .ok (.iconst 0, 1) := by decide +kernel
theorem dX12_digest_40 : decode cX12_digest 40 = .ok (.istore_n 3, 1) := by decide +kernel
theorem dX12_digest_41 : decode cX12_digest 41 = .ok (.iload_n 3, 1) := by decide +kernel
theorem dX12_digest_42 : decode cX12_digest 42 = .ok (.aload_n 0, 1) := by decide +kernel
theorem dX12_digest_43 : decode cX12_digest 43 = .ok (.invokevirtual 49, 3) := by decide +kernel
theorem dX12_digest_46 : decode cX12_digest 46 = .ok (.if_icmp .ge 56, 3) := by decide +kernel
theorem dX12_digest_49 : decode cX12_digest 49 = .ok (.aload_n 0, 1) := by decide +kernel
theorem dX12_digest_50 : decode cX12_digest 50 = .ok (.lload_n 1, 1) := by decide +kernel
theorem dX12_digest_51 : decode cX12_digest 51 = .ok (.bipush 9, 2) := by decide +kernel
theorem dX12_digest_53 : decode cX12_digest 53 = .ok (.iconst 4, 1) := by decide +kernel
theorem dX12_digest_54 : decode cX12_digest 54 = .ok (.iload_n 3, 1) := by decide +kernel
theorem dX12_digest_55 : decode cX12_digest 55 = .ok (.imul, 1) := by decide +kernel
theorem dX12_digest_56 : decode cX12_digest 56 = .ok (.iadd, 1) := by decide +kernel
theorem dX12_digest_57 : decode cX12_digest 57 = .ok (.iconst 4, 1) := by decide +kernel
theorem dX12_digest_58 : decode cX12_digest 58 = .ok (.invokevirtual 245, 3) := by decide +kernel
theorem dX12_digest_61 : decode cX12_digest 61 = .ok (.lstore_n 1, 1) := by decide +kernel
theorem dX12_digest_62 : decode cX12_digest 62 = .ok (.ldc2_w 241, 3) := by decide +kernel
theorem dX12_digest_65 : decode cX12_digest 65 = .ok (.ldc2_w 241, 3) := by decide +kernel
theorem dX12_digest_68 : decode cX12_digest 68 = .ok (.lload_n 1, 1) := by decide +kernel
theorem dX12_digest_69 : decode cX12_digest 69 = .ok (.lmul, 1) := by decide +kernel
theorem dX12_digest_70 : decode cX12_digest 70 = .ok (.aload_n 0, 1) := by decide +kernel
theorem dX12_digest_71 : decode cX12_digest 71 = .ok (.getfield 7, 3) := by decide +kernel
theorem dX12_digest_74 : decode cX12_digest 74 = .ok (.iconst 3, 1) := by decide +kernel
theorem dX12_digest_75 : decode cX12_digest 75 = .ok (.iaload, 1) := by decide +kernel
theorem dX12_digest_76 : decode cX12_digest 76 = .ok (.iload_n 3, 1) := by decide +kernel
theorem dX12_digest_77 : decode cX12_digest 77 = .ok (.ishr, 1) := by decide +kernel
theorem dX12_digest_78 : decode cX12_digest 78 = .ok (.iconst 1, 1) := by decide +kernel
theorem dX12_digest_79 : decode cX12_digest 79 = .ok (.iand, 1) := by decide +kernel
theorem dX12_digest_80 : decode cX12_digest 80 = .ok (.i2l, 1) := by decide +kernel
theorem dX12_digest_81 : decode cX12_digest 81 = .ok (.ladd, 1) := by decide +kernel
theorem dX12_digest_82 : decode cX12_digest 82 = .ok (.lmul, 1) := by decide +kernel
theorem dX12_digest_83 : decode cX12_digest 83 = .ok (.aload_n 0, 1) := by decide +kernel
theorem dX12_digest_84 : decode cX12_digest 84 = .ok (.getfield 7, 3) := by decide +kernel
theorem dX12_digest_87 : decode cX12_digest 87 = .ok (.iconst 4, 1) := by decide +kernel
theorem dX12_digest_88 : decode cX12_digest 88 = .ok (.iaload, 1) := by decide +kernel
theorem dX12_digest_89 : decode cX12_digest 89 = .ok (.iload_n 3, 1) := by decide +kernel
theorem dX12_digest_90 : decode cX12_digest 90 = .ok (.ishr, 1) := by decide +kernel
theorem dX12_digest_91 : decode cX12_digest 91 = .ok (.iconst 1, 1) := by decide +kernel
theorem dX12_digest_92 : decode cX12_digest 92 = .ok (.iand, 1) := by decide +kernel
theorem dX12_digest_93 : decode cX12_digest 93 = .ok (.i2l, 1) := by decide +kernel
theorem dX12_digest_94 : decode cX12_digest 94 = .ok (.ladd, 1) := by decide +kernel
theorem dX12_digest_95 : decode cX12_digest 95 = .ok (.lstore_n 1, 1) := by decide +kernel
theorem dX12_digest_96 : decode cX12_digest 96 = .ok (.iinc 3 1, 3) := by decide +kernel
theorem dX12_digest_99 : decode cX12_digest 99 = .ok (.goto (-58), 3) := by decide +kernel
theorem dX12_digest_102 : decode cX12_digest 102 = .ok (.aload_n 0, 1) := by decide +kernel
theorem dX12_digest_103 : decode cX12_digest 103 = .ok (.lload_n 1, 1) := by decide +kernel
theorem dX12_digest_104 : decode cX12_digest 104 = .ok (.bipush 33, 2) := by decide +kernel
theorem dX12_digest_106 : decode cX12_digest 106 = .ok (.iconst 4, 1) := by decide +kernel
theorem dX12_digest_107 : decode cX12_digest 107 = .ok (.aload_n 0, 1) := by decide +kernel
theorem dX12_digest_108 : decode cX12_digest 108 = .ok (.getfield 7, 3) := by decide +kernel
theorem dX12_digest_111 : decode cX12_digest 111 = .ok (.bipush 7, 2) := by decide +kernel
theorem dX12_digest_113 : decode cX12_digest 113 = .ok (.iaload, 1) := by decide +kernel
theorem dX12_digest_114 : decode cX12_digest 114 = .ok (.imul, 1) := by decide +kernel
theorem dX12_digest_115 : decode cX12_digest 115 = .ok (.invokevirtual 245, 3) := by decide +kernel
theorem dX12_digest_118 : decode cX12_digest 118 = .ok (.lstore_n 1, 1) := by decide +kernel
theorem dX12_digest_119 : decode cX12_digest 119 = .ok (.ldc2_w 241, 3) := by decide +kernel
theorem dX12_digest_122 : decode cX12_digest 122 = .ok (.ldc2_w 241, 3) := by decide +kernel
theorem dX12_digest_125 : decode cX12_digest 125 = .ok (.lload_n 1, 1) := by decide +kernel
theorem dX12_digest_126 : decode cX12_digest 126 = .ok (.lmul, 1) := by decide +kernel
theorem dX12_digest_127 : decode cX12_digest 127 = .ok (.aload_n 0, 1) := by decide +kernel
theorem dX12_digest_128 : decode cX12_digest 128 = .ok (.getfield 154, 3) := by decide +kernel
theorem dX12_digest_131 : decode cX12_digest 131 = .ok (.ladd, 1) := by decide +kernel
theorem dX12_digest_132 : decode cX12_digest 132 = .ok (.lmul, 1) := by decide +kernel
theorem dX12_digest_133 : decode cX12_digest 133 = .ok (.aload_n 0, 1) := by decide +kernel
theorem dX12_digest_134 : decode cX12_digest 134 = .ok (.getfield 23, 3) := by decide +kernel
theorem dX12_digest_137 : decode cX12_digest 137 = .ok (.ladd, 1) := by decide +kernel
theorem dX12_digest_138 : decode cX12_digest 138 = .ok (.lreturn, 1) := by decide +kernel
